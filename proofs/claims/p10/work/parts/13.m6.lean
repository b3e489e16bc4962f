theorem dX12_goThrough_0 : decode cX12_goThrough 0 = .ok (.aload_n 0, 1) := by decide +kernel
theorem dX12_goThrough_1 : decode cX12_goThrough 1 = .ok (.iload_n 1, 1) := by decide +kernel
theorem dX12_goThrough_2 : decode cX12_goThrough 2 = .ok (.putfield 423, 3) := by decide +kernel
theorem dX12_goThrough_5 : decode cX12_goThrough 5 = .ok (.iconst 0, 1) := by decide +kernel
theorem dX12_goThrough_6 : decode cX12_goThrough 6 = .ok (.istore_n 2, 1) := by decide +kernel
theorem dX12_goThrough_7 : decode cX12_goThrough 7 = .ok (.iload_n 2, 1) := by decide +kernel
theorem dX12_goThrough_8 : decode cX12_goThrough 8 = .ok (.aload_n 0, 1) := by decide +kernel
theorem dX12_goThrough_9 : decode cX12_goThrough 9 = .ok (.getfield 263, 3) := by decide +kernel
theorem dX12_goThrough_12 : decode cX12_goThrough 12 = .ok (.if_icmp .ge 42, 3) := by decide +kernel
theorem dX12_goThrough_15 : decode cX12_goThrough 15 = .ok (.aload_n 0, 1) := by decide +kernel
theorem dX12_goThrough_16 : decode cX12_goThrough 16 = .ok (.getfield 159, 3) := by decide +kernel
theorem dX12_goThrough_19 : decode cX12_goThrough 19 = .ok (.iload_n 2, 1) := by decide +kernel
theorem dX12_goThrough_20 : decode cX12_goThrough 20 = .ok (.aload_n 0, 1) := by decide +kernel
theorem dX12_goThrough_21 : decode cX12_goThrough 21 = .ok (.getfield 55, 3) := by decide +kernel
theorem dX12_goThrough_24 : decode cX12_goThrough 24 = .ok (.iload_n 2, 1) := by decide +kernel
theorem dX12_goThrough_25 : decode cX12_goThrough 25 = .ok (.iaload, 1) := by decide +kernel
theorem dX12_goThrough_26 : decode cX12_goThrough 26 = .ok (.iastore, 1) := by decide +kernel
theorem dX12_goThrough_27 : decode cX12_goThrough 27 = .ok (.aload_n 0, 1) := by decide +kernel
theorem dX12_goThrough_28 : decode cX12_goThrough 28 = .ok (.getfield 162, 3) := by decide +kernel
theorem dX12_goThrough_31 : decode cX12_goThrough 31 = .ok (.iload_n 2, 1) := by decide +kernel
theorem dX12_goThrough_32 : decode cX12_goThrough 32 = .ok (.iconst (-1), 1) := by decide +kernel
theorem dX12_goThrough_33 : decode cX12_goThrough 33 = .ok (.iastore, 1) := by decide +kernel
theorem dX12_goThrough_34 : decode cX12_goThrough 34 = .ok (.aload_n 0, 1) := by decide +kernel
theorem dX12_goThrough_35 : decode cX12_goThrough 35 = .ok (.getfield 165, 3) := by decide +kernel
theorem dX12_goThrough_38 : decode cX12_goThrough 38 = .ok (.iload_n 2, 1) := by decide +kernel
theorem dX12_goThrough_39 : decode cX12_goThrough 39 = .ok (.iconst 0, 1) := by decide +kernel
theorem dX12_goThrough_40 : decode cX12_goThrough 40 = .ok (.iastore, 1) := by decide +kernel
theorem dX12_goThrough_41 : decode cX12_goThrough 41 = .ok (.aload_n 0, 1) := by decide +kernel
theorem dX12_goThrough_42 : decode cX12_goThrough 42 = .ok (.getfield 168, 3) := by decide +kernel
theorem dX12_goThrough_45 : decode cX12_goThrough 45 = .ok (.iload_n 2, 1) := by decide +kernel
theorem dX12_goThrough_46 : decode cX12_goThrough 46 = .ok (.iconst 0, 1) := by decide +kernel
theorem dX12_goThrough_47 : decode cX12_goThrough 47 = .ok (.iastore, 1) := by decide +kernel
theorem dX12_goThrough_48 : decode cX12_goThrough 48 = .ok (.iinc 2 1, 3) := by decide +kernel
theorem dX12_goThrough_51 : decode cX12_goThrough 51 = .ok (.goto (-44), 3) := by decide +kernel
theorem dX12_goThrough_54 : decode cX12_goThrough 54 = .ok (.iconst 0, 1) := by decide +kernel
theorem dX12_goThrough_55 : decode cX12_goThrough 55 = .ok (.istore_n 2, 1) := by decide +kernel
theorem dX12_goThrough_56 : decode cX12_goThrough 56 = .ok (.iload_n 2, 1) := by decide +kernel
theorem dX12_goThrough_57 : decode cX12_goThrough 57 = .ok (.aload_n 0, 1) := by decide +kernel
theorem dX12_goThrough_58 : decode cX12_goThrough 58 = .ok (.getfield 254, 3) := by decide +kernel
theorem dX12_goThrough_61 : decode cX12_goThrough 61 = .ok (.if_icmp .ge 49, 3) := by decide +kernel
theorem dX12_goThrough_64 : decode cX12_goThrough 64 = .ok (.aload_n 0, 1) := by decide +kernel
theorem dX12_goThrough_65 : decode cX12_goThrough 65 = .ok (.getfield 135, 3) := by decide +kernel
theorem dX12_goThrough_68 : decode cX12_goThrough 68 = .ok (.iload_n 2, 1) := by decide +kernel
theorem dX12_goThrough_69 : decode cX12_goThrough 69 = .ok (.iconst 0, 1) := by decide +kernel
theorem dX12_goThrough_70 : decode cX12_goThrough 70 = .ok (.iastore, 1) := by decide +kernel
theorem dX12_goThrough_71 : decode cX12_goThrough 71 = .ok (.aload_n 0, 1) := by decide +kernel
theorem dX12_goThrough_72 : decode cX12_goThrough 72 = .ok (.getfield 138, 3) := by decide +kernel
theorem dX12_goThrough_75 : decode cX12_goThrough 75 = .ok (.iload_n 2, 1) := by decide +kernel
theorem dX12_goThrough_76 : decode cX12_goThrough 76 = .ok (.aload_n 0, 1) := by decide +kernel
theorem dX12_goThrough_77 : decode cX12_goThrough 77 = .ok (.getfield 19, 3) := by decide +kernel
theorem dX12_goThrough_80 : decode cX12_goThrough 80 = .ok (.iload_n 2, 1) := by decide +kernel
theorem dX12_goThrough_81 : decode cX12_goThrough 81 = .ok (.iaload, 1) := by decide +kernel
theorem dX12_goThrough_82 : decode cX12_goThrough 82 = .ok (.iastore, 1) := by decide +kernel
theorem dX12_goThrough_83 : decode cX12_goThrough 83 = .ok (.aload_n 0, 1) := by decide +kernel
theorem dX12_goThrough_84 : decode cX12_goThrough 84 = .ok (.getfield 147, 3) := by decide +kernel
theorem dX12_goThrough_87 : decode cX12_goThrough 87 = .ok (.iload_n 2, 1) := by decide +kernel
theorem dX12_goThrough_88 : decode cX12_goThrough 88 = .ok (.iconst (-1), 1) := by decide +kernel
theorem dX12_goThrough_89 : decode cX12_goThrough 89 = .ok (.iastore, 1) := by decide +kernel
theorem dX12_goThrough_90 : decode cX12_goThrough 90 = .ok (.aload_n 0, 1) := by decide +kernel
theorem dX12_goThrough_91 : decode cX12_goThrough 91 = .ok (.getfield 153, 3) := by decide +kernel
theorem dX12_goThrough_94 : decode cX12_goThrough 94 = .ok (.iload_n 2, 1) := by decide +kernel
theorem dX12_goThrough_95 : decode cX12_goThrough 95 = .ok (.iconst 0, 1) := by decide +kernel
theorem dX12_goThrough_96 : decode cX12_goThrough 96 = .ok (.iastore, 1) := by decide +kernel
theorem dX12_goThrough_97 : decode cX12_goThrough 97 = .ok (.aload_n 0, 1) := by decide +kernel
theorem dX12_goThrough_98 : decode cX12_goThrough 98 = .ok (.getfield 156, 3) := by decide +kernel
theorem dX12_goThrough_101 : decode cX12_goThrough 101 = .ok (.iload_n 2, 1) := by decide +kernel
theorem dX12_goThrough_102 : decode cX12_goThrough 102 = .ok (.iconst 0, 1) := by decide +kernel
theorem dX12_goThrough_103 : decode cX12_goThrough 103 = .ok (.iastore, 1) := by decide +kernel
theorem dX12_goThrough_104 : decode cX12_goThrough 104 = .ok (.iinc 2 1, 3) := by decide +kernel
theorem dX12_goThrough_107 : decode cX12_goThrough 107 = .ok (.goto (-51), 3) := by decide +kernel
theorem dX12_goThrough_110 : decode cX12_goThrough 110 = .ok (.iconst 0, 1) := by decide +kernel
theorem dX12_goThrough_111 : decode cX12_goThrough 111 = .ok (.istore_n 2, 1) := by decide +kernel
theorem dX12_goThrough_112 : decode cX12_goThrough 112 = .ok (.iload_n 2, 1) := by decide +kernel
theorem dX12_goThrough_113 : decode cX12_goThrough 113 = .ok (.aload_n 0, 1) := by decide +kernel
theorem dX12_goThrough_114 : decode cX12_goThrough 114 = .ok (.getfield 269, 3) := by decide +kernel
theorem dX12_goThrough_117 : decode cX12_goThrough 117 = .ok (.if_icmp .ge 16, 3) := by decide +kernel
theorem dX12_goThrough_120 : decode cX12_goThrough 120 = .ok (.aload_n 0, 1) := by decide +kernel
theorem dX12_goThrough_121 : decode cX12_goThrough 121 = .ok (.getfield 171, 3) := by decide +kernel
theorem dX12_goThrough_124 : decode cX12_goThrough 124 = .ok (.iload_n 2, 1) := by decide +kernel
theorem dX12_goThrough_125 : decode cX12_goThrough 125 = .ok (.iconst (-1), 1) := by decide +kernel
theorem dX12_goThrough_126 : decode cX12_goThrough 126 = .ok (.iastore, 1) := by decide +kernel
theorem dX12_goThrough_127 : decode cX12_goThrough 127 = .ok (.iinc 2 1, 3) := by decide +kernel
theorem dX12_goThrough_130 : decode cX12_goThrough 130 = .ok (.goto (-18), 3) := by decide +kernel
theorem dX12_goThrough_133 : decode cX12_goThrough 133 = .ok (.aload_n 0, 1) := by decide +kernel
theorem dX12_goThrough_134 : decode cX12_goThrough 134 = .ok (.invokevirtual 462, 3) := by decide +kernel
theorem dX12_goThrough_137 : decode cX12_goThrough 137 = .ok (.aload_n 0, 1) := by decide +kernel
theorem dX12_goThrough_138 : decode cX12_goThrough 138 = .ok (.iconst 0, 1) := by decide +kernel
theorem dX12_goThrough_139 : decode cX12_goThrough 139 = .ok (.putfield 443, 3) := by decide +kernel
theorem dX12_goThrough_142 : decode cX12_goThrough 142 = .ok (.aload_n 0, 1) := by decide +kernel
theorem dX12_goThrough_143 : decode cX12_goThrough 143 = .ok (.getfield 443, 3) := by decide +kernel
theorem dX12_goThrough_146 : decode cX12_goThrough 146 = .ok (.sipush 839, 3) := by decide +kernel
theorem dX12_goThrough_149 : decode cX12_goThrough 149 = .ok (.if_icmp .gt 20, 3) := by decide +kernel
theorem dX12_goThrough_152 : decode cX12_goThrough 152 = .ok (.aload_n 0, 1) := by decide +kernel
theorem dX12_goThrough_153 : decode cX12_goThrough 153 = .ok (.invokevirtual 465, 3) := by decide +kernel
theorem dX12_goThrough_156 : decode cX12_goThrough 156 = .ok (.aload_n 0, 1) := by decide +kernel
theorem dX12_goThrough_157 : decode cX12_goThrough 157 = .ok (.dup, 1) := by decide +kernel
theorem dX12_goThrough_158 : decode cX12_goThrough 158 = .ok (.getfield 443, 3) := by decide +kernel
theorem dX12_goThrough_161 : decode cX12_goThrough 161 = .ok (.iconst 1, 1) := by decide +kernel
theorem dX12_goThrough_162 : decode cX12_goThrough 162 = .ok (.iadd, 1) := by decide +kernel
theorem dX12_goThrough_163 : decode cX12_goThrough 163 = .ok (.putfield 443, 3) := by decide +kernel
theorem dX12_goThrough_166 : decode cX12_goThrough 166 = .ok (.goto (-24), 3) := by decide +kernel
theorem dX12_goThrough_169 : decode cX12_goThrough 169 = .ok (.aload_n 0, 1) := by decide +kernel
theorem dX12_goThrough_170 : decode cX12_goThrough 170 = .ok (.invokevirtual 403, 3) := by decide +kernel
theorem dX12_goThrough_173 : decode cX12_goThrough 173 = .ok (.istore_n 2, 1) := by decide +kernel
theorem dX12_goThrough_174 : decode cX12_goThrough 174 = .ok (.iconst 0, 1) := by decide +kernel
theorem dX12_goThrough_175 : decode cX12_goThrough 175 = .ok (.istore_n 3, 1) := by decide +kernel
theorem dX12_goThrough_176 : decode cX12_goThrough 176 = .ok (.iload_n 3, 1) := by decide +kernel
theorem dX12_goThrough_177 : decode cX12_goThrough 177 = .ok (.aload_n 0, 1) := by decide +kernel
theorem dX12_goThrough_178 : decode cX12_goThrough 178 = .ok (.getfield 254, 3) := by decide +kernel
theorem dX12_goThrough_181 : decode cX12_goThrough 181 = .ok (.if_icmp .ge 143, 3) := by decide +kernel
theorem dX12_goThrough_184 : decode cX12_goThrough 184 = .ok (.aload_n 0, 1) := by decide +kernel
theorem dX12_goThrough_185 : decode cX12_goThrough 185 = .ok (.getfield 150, 3) := by decide +kernel
theorem dX12_goThrough_188 : decode cX12_goThrough 188 = .ok (.iload_n 3, 1) := by decide +kernel
theorem dX12_goThrough_189 : decode cX12_goThrough 189 = .ok (.aload_n 0, 1) := by decide +kernel
theorem dX12_goThrough_190 : decode cX12_goThrough 190 = .ok (.getfield 147, 3) := by decide +kernel
theorem dX12_goThrough_193 : decode cX12_goThrough 193 = .ok (.iload_n 3, 1) := by decide +kernel
theorem dX12_goThrough_194 : decode cX12_goThrough 194 = .ok (.iaload, 1) := by decide +kernel
theorem dX12_goThrough_195 : decode cX12_goThrough 195 = .ok (.iconst (-1), 1) := by decide +kernel
theorem dX12_goThrough_196 : decode cX12_goThrough 196 = .ok (.if_icmp .ne 16, 3) := by decide +kernel
theorem dX12_goThrough_199 : decode cX12_goThrough 199 = .ok (.sipush 840, 3) := by decide +kernel
theorem dX12_goThrough_202 : decode cX12_goThrough 202 = .ok (.aload_n 0, 1) := by decide +kernel
theorem dX12_goThrough_203 : decode cX12_goThrough 203 = .ok (.getfield 31, 3) := by decide +kernel
theorem dX12_goThrough_206 : decode cX12_goThrough 206 = .ok (.iload_n 3, 1) := by decide +kernel
theorem dX12_goThrough_207 : decode cX12_goThrough 207 = .ok (.iaload, 1) := by decide +kernel
theorem dX12_goThrough_208 : decode cX12_goThrough 208 = .ok (.isub, 1) := by decide +kernel
theorem dX12_goThrough_209 : decode cX12_goThrough 209 = .ok (.goto 35, 3) := by decide +kernel
theorem dX12_goThrough_212 : decode cX12_goThrough 212 = .ok (.aload_n 0, 1) := by decide +kernel
theorem dX12_goThrough_213 : decode cX12_goThrough 213 = .ok (.getfield 147, 3) := by decide +kernel
theorem dX12_goThrough_216 : decode cX12_goThrough 216 = .ok (.iload_n 3, 1) := by decide +kernel
theorem dX12_goThrough_217 : decode cX12_goThrough 217 = .ok (.iaload, 1) := by decide +kernel
theorem dX12_goThrough_218 : decode cX12_goThrough 218 = .ok (.aload_n 0, 1) := by decide +kernel
theorem dX12_goThrough_219 : decode cX12_goThrough 219 = .ok (.getfield 31, 3) := by decide +kernel
theorem dX12_goThrough_222 : decode cX12_goThrough 222 = .ok (.iload_n 3, 1) := by decide +kernel
theorem dX12_goThrough_223 : decode cX12_goThrough 223 = .ok (.iaload, 1) := by decide +kernel
theorem dX12_goThrough_224 : decode cX12_goThrough 224 = .ok (.if_icmp .le 19, 3) := by decide +kernel
theorem dX12_goThrough_227 : decode cX12_goThrough 227 = .ok (.aload_n 0, 1) := by decide +kernel
theorem dX12_goThrough_228 : decode cX12_goThrough 228 = .ok (.getfield 147, 3) := by decide +kernel
theorem dX12_goThrough_231 : decode cX12_goThrough 231 = .ok (.iload_n 3, 1) := by decide +kernel
theorem dX12_goThrough_232 : decode cX12_goThrough 232 = .ok (.iaload, 1) := by decide +kernel
theorem dX12_goThrough_233 : decode cX12_goThrough 233 = .ok (.aload_n 0, 1) := by decide +kernel
theorem dX12_goThrough_234 : decode cX12_goThrough 234 = .ok (.getfield 31, 3) := by decide +kernel
theorem dX12_goThrough_237 : decode cX12_goThrough 237 = .ok (.iload_n 3, 1) := by decide +kernel
theorem dX12_goThrough_238 : decode cX12_goThrough 238 = .ok (.iaload, 1) := by decide +kernel
theorem dX12_goThrough_239 : decode cX12_goThrough 239 = .ok (.isub, 1) := by decide +kernel
theorem dX12_goThrough_240 : decode cX12_goThrough 240 = .ok (.goto 4, 3) := by decide +kernel
theorem dX12_goThrough_243 : decode cX12_goThrough 243 = .ok (.iconst 0, 1) := by decide +kernel
theorem dX12_goThrough_244 : decode cX12_goThrough 244 = .ok (.iastore, 1) := by decide +kernel
theorem dX12_goThrough_245 : decode cX12_goThrough 245 = .ok (.aload_n 0, 1) := by decide +kernel
theorem dX12_goThrough_246 : decode cX12_goThrough 246 = .ok (.getfield 25, 3) := by decide +kernel
theorem dX12_goThrough_249 : decode cX12_goThrough 249 = .ok (.iload_n 3, 1) := by decide +kernel
theorem dX12_goThrough_250 : decode cX12_goThrough 250 = .ok (.iaload, 1) := by decide +kernel
theorem dX12_goThrough_251 : decode cX12_goThrough 251 = .ok (.iload_n 2, 1) := by decide +kernel
theorem dX12_goThrough_252 : decode cX12_goThrough 252 = .ok (.iconst (-1), 1) := by decide +kernel
theorem dX12_goThrough_253 : decode cX12_goThrough 253 = .ok (.if_icmp .ne 7, 3) := by decide +kernel
theorem dX12_goThrough_256 : decode cX12_goThrough 256 = .ok (.iconst 0, 1) := by decide +kernel
theorem dX12_goThrough_257 : decode cX12_goThrough 257 = .ok (.goto 9, 3) := by decide +kernel
theorem dX12_goThrough_260 : decode cX12_goThrough 260 = .ok (.aload_n 0, 1) := by decide +kernel
theorem dX12_goThrough_261 : decode cX12_goThrough 261 = .ok (.getfield 91, 3) := by decide +kernel
theorem dX12_goThrough_264 : decode cX12_goThrough 264 = .ok (.iload_n 2, 1) := by decide +kernel
theorem dX12_goThrough_265 : decode cX12_goThrough 265 = .ok (.iaload, 1) := by decide +kernel
theorem dX12_goThrough_266 : decode cX12_goThrough 266 = .ok (.aload_n 0, 1) := by decide +kernel
theorem dX12_goThrough_267 : decode cX12_goThrough 267 = .ok (.getfield 150, 3) := by decide +kernel
theorem dX12_goThrough_270 : decode cX12_goThrough 270 = .ok (.iload_n 3, 1) := by decide +kernel
theorem dX12_goThrough_271 : decode cX12_goThrough 271 = .ok (.iaload, 1) := by decide +kernel
theorem dX12_goThrough_272 : decode cX12_goThrough 272 = .ok (.bipush 10, 2) := by decide +kernel
theorem dX12_goThrough_274 : decode cX12_goThrough 274 = .ok (.idiv, 1) := by decide +kernel
theorem dX12_goThrough_275 : decode cX12_goThrough 275 = .ok (.imul, 1) := by decide +kernel
theorem dX12_goThrough_276 : decode cX12_goThrough 276 = .ok (.isub, 1) := by decide +kernel
theorem dX12_goThrough_277 : decode cX12_goThrough 277 = .ok (.istore 4, 2) := by decide +kernel
theorem dX12_goThrough_279 : decode cX12_goThrough 279 = .ok (.aload_n 0, 1) := by decide +kernel
theorem dX12_goThrough_280 : decode cX12_goThrough 280 = .ok (.getfield 40, 3) := by decide +kernel
theorem dX12_goThrough_283 : decode cX12_goThrough 283 = .ok (.iload_n 3, 1) := by decide +kernel
theorem dX12_goThrough_284 : decode cX12_goThrough 284 = .ok (.dup2, 1) := by decide +kernel
theorem dX12_goThrough_285 : decode cX12_goThrough 285 = .ok (.iaload, 1) := by decide +kernel
theorem dX12_goThrough_286 : decode cX12_goThrough 286 = .ok (.iload 4, 2) := by decide +kernel
theorem dX12_goThrough_288 : decode cX12_goThrough 288 = .ok (.ifCond .ge 7, 3) := by decide +kernel
theorem dX12_goThrough_291 : decode cX12_goThrough 291 = .ok (.iconst 0, 1) := by decide +kernel
theorem dX12_goThrough_292 : decode cX12_goThrough 292 = .ok (.goto 5, 3) := by decide +kernel
theorem dX12_goThrough_295 : decode cX12_goThrough 295 = .ok (.iload 4, 2) := by decide +kernel
theorem dX12_goThrough_297 : decode cX12_goThrough 297 = .ok (.iadd, 1) := by decide +kernel
theorem dX12_goThrough_298 : decode cX12_goThrough 298 = .ok (.iastore, 1) := by decide +kernel
theorem dX12_goThrough_299 : decode cX12_goThrough 299 = .ok (.aload_n 0, 1) := by decide +kernel
theorem dX12_goThrough_300 : decode cX12_goThrough 300 = .ok (.getfield 40, 3) := by decide +kernel
theorem dX12_goThrough_303 : decode cX12_goThrough 303 = .ok (.iload_n 3, 1) := by decide +kernel
theorem dX12_goThrough_304 : decode cX12_goThrough 304 = .ok (.iaload, 1) := by decide +kernel
theorem dX12_goThrough_305 : decode cX12_goThrough 305 = .ok (.ldc 225, 2) := by decide +kernel
theorem dX12_goThrough_307 : decode cX12_goThrough 307 = .ok (.if_icmp .le 11, 3) := by decide +kernel
theorem dX12_goThrough_310 : decode cX12_goThrough 310 = .ok (.aload_n 0, 1) := by decide +kernel
theorem dX12_goThrough_311 : decode cX12_goThrough 311 = .ok (.getfield 40, 3) := by decide +kernel
theorem dX12_goThrough_314 : decode cX12_goThrough 314 = .ok (.iload_n 3, 1) := by decide +kernel
theorem dX12_goThrough_315 : decode cX12_goThrough 315 = .ok (.ldc 225, 2) := by decide +kernel
theorem dX12_goThrough_317 : decode cX12_goThrough 317 = .ok (.iastore, 1) := by decide +kernel
theorem dX12_goThrough_318 : decode cX12_goThrough 318 = .ok (.iinc 3 1, 3) := by decide +kernel
theorem dX12_goThrough_321 : decode cX12_goThrough 321 = .ok (.goto (-145), 3) := by decide +kernel
theorem dX12_goThrough_324 : decode cX12_goThrough 324 = .ok (.aload_n 0, 1) := by decide +kernel
theorem dX12_goThrough_325 : decode cX12_goThrough 325 = .ok (.iconst (-1), 1) := by decide +kernel
theorem dX12_goThrough_326 : decode cX12_goThrough 326 = .ok (.putfield 423, 3) := by decide +kernel
theorem dX12_goThrough_329 : decode cX12_goThrough 329 = .ok (.return_, 1) := by decide +kernel
theorem dX12_keep_0 : decode cX12_keep 0 = .ok (.iconst 0, 1) := by decide +kernel
theorem dX12_keep_1 : decode cX12_keep 1 = .ok (.istore_n 3, 1) := by decide +kernel
theorem dX12_keep_2 : decode cX12_keep 2 = .ok (.iload_n 3, 1) := by decide +kernel
theorem dX12_keep_3 : decode cX12_keep 3 = .ok (.iload_n 2, 1) := by decide +kernel
theorem dX12_keep_4 : decode cX12_keep 4 = .ok (.if_icmp .ge 31, 3) := by decide +kernel
theorem dX12_keep_7 : decode cX12_keep 7 = .ok (.aload_n 0, 1) := by decide +kernel
theorem dX12_keep_8 : decode cX12_keep 8 = .ok (.getfield 186, 3) := by decide +kernel
theorem dX12_keep_11 : decode cX12_keep 11 = .ok (.aload_n 0, 1) := by decide +kernel
theorem dX12_keep_12 : decode cX12_keep 12 = .ok (.getfield 474, 3) := by decide +kernel
theorem dX12_keep_15 : decode cX12_keep 15 = .ok (.aload_n 1, 1) := by decide +kernel
theorem dX12_keep_16 : decode cX12_keep 16 = .ok (.iload_n 3, 1) := by decide +kernel
theorem dX12_keep_17 : decode cX12_keep 17 = .ok (.iaload, 1) := by decide +kernel
theorem dX12_keep_18 : decode cX12_keep 18 = .ok (.iastore, 1) := by decide +kernel
theorem dX12_keep_19 : decode cX12_keep 19 = .ok (.aload_n 0, 1) := by decide +kernel
theorem dX12_keep_20 : decode cX12_keep 20 = .ok (.dup, 1) := by decide +kernel
theorem dX12_keep_21 : decode cX12_keep 21 = .ok (.getfield 474, 3) := by decide +kernel
theorem dX12_keep_24 : decode cX12_keep 24 = .ok (.iconst 1, 1) := by decide +kernel
theorem dX12_keep_25 : decode cX12_keep 25 = .ok (.iadd, 1) := by decide +kernel
theorem dX12_keep_26 : decode cX12_keep 26 = .ok (.putfield 474, 3) := by decide +kernel
theorem dX12_keep_29 : decode cX12_keep 29 = .ok (.iinc 3 1, 3) := by decide +kernel
theorem dX12_keep_32 : decode cX12_keep 32 = .ok (.goto (-30), 3) := by decide +kernel
theorem dX12_keep_35 : decode cX12_keep 35 = .ok (.return_, 1) := by decide +kernel
theorem dX12_leave_0 : decode cX12_leave 0 = .ok (.aload_n 0, 1) := by decide +kernel
theorem dX12_leave_1 : decode cX12_leave 1 = .ok (.getfield 67, 3) := by decide +kernel
theorem dX12_leave_4 : decode cX12_leave 4 = .ok (.iload_n 1, 1) := by decide +kernel
theorem dX12_leave_5 : decode cX12_leave 5 = .ok (.iaload, 1) := by decide +kernel
theorem dX12_leave_6 : decode cX12_leave 6 = .ok (.istore_n 2, 1) := by decide +kernel
theorem dX12_leave_7 : decode cX12_leave 7 = .ok (.aload_n 0, 1) := by decide +kernel
theorem dX12_leave_8 : decode cX12_leave 8 = .ok (.getfield 171, 3) := by decide +kernel
theorem dX12_leave_11 : decode cX12_leave 11 = .ok (.iload_n 1, 1) := by decide +kernel
theorem dX12_leave_12 : decode cX12_leave 12 = .ok (.bipush (-2), 2) := by decide +kernel
theorem dX12_leave_14 : decode cX12_leave 14 = .ok (.iastore, 1) := by decide +kernel
theorem dX12_leave_15 : decode cX12_leave 15 = .ok (.aload_n 0, 1) := by decide +kernel
theorem dX12_leave_16 : decode cX12_leave 16 = .ok (.getfield 168, 3) := by decide +kernel
theorem dX12_leave_19 : decode cX12_leave 19 = .ok (.iload_n 2, 1) := by decide +kernel
theorem dX12_leave_20 : decode cX12_leave 20 = .ok (.iaload, 1) := by decide +kernel
theorem dX12_leave_21 : decode cX12_leave 21 = .ok (.iconst 1, 1) := by decide +kernel
theorem dX12_leave_22 : decode cX12_leave 22 = .ok (.if_icmp .eq 54, 3) := by decide +kernel
theorem dX12_leave_25 : decode cX12_leave 25 = .ok (.aload_n 0, 1) := by decide +kernel
theorem dX12_leave_26 : decode cX12_leave 26 = .ok (.getfield 162, 3) := by decide +kernel
theorem dX12_leave_29 : decode cX12_leave 29 = .ok (.iload_n 2, 1) := by decide +kernel
theorem dX12_leave_30 : decode cX12_leave 30 = .ok (.iaload, 1) := by decide +kernel
theorem dX12_leave_31 : decode cX12_leave 31 = .ok (.iconst (-1), 1) := by decide +kernel
theorem dX12_leave_32 : decode cX12_leave 32 = .ok (.if_icmp .ne 44, 3) := by decide +kernel
theorem dX12_leave_35 : decode cX12_leave 35 = .ok (.aload_n 0, 1) := by decide +kernel
theorem dX12_leave_36 : decode cX12_leave 36 = .ok (.getfield 159, 3) := by decide +kernel
theorem dX12_leave_39 : decode cX12_leave 39 = .ok (.iload_n 2, 1) := by decide +kernel
theorem dX12_leave_40 : decode cX12_leave 40 = .ok (.iaload, 1) := by decide +kernel
theorem dX12_leave_41 : decode cX12_leave 41 = .ok (.aload_n 0, 1) := by decide +kernel
theorem dX12_leave_42 : decode cX12_leave 42 = .ok (.getfield 70, 3) := by decide +kernel
theorem dX12_leave_45 : decode cX12_leave 45 = .ok (.iload_n 1, 1) := by decide +kernel
theorem dX12_leave_46 : decode cX12_leave 46 = .ok (.iaload, 1) := by decide +kernel
theorem dX12_leave_47 : decode cX12_leave 47 = .ok (.if_icmp .ne 29, 3) := by decide +kernel
theorem dX12_leave_50 : decode cX12_leave 50 = .ok (.aload_n 0, 1) := by decide +kernel
theorem dX12_leave_51 : decode cX12_leave 51 = .ok (.iload_n 1, 1) := by decide +kernel
theorem dX12_leave_52 : decode cX12_leave 52 = .ok (.invokevirtual 420, 3) := by decide +kernel
theorem dX12_leave_55 : decode cX12_leave 55 = .ok (.ldc 225, 2) := by decide +kernel
theorem dX12_leave_57 : decode cX12_leave 57 = .ok (.if_icmp .ge 19, 3) := by decide +kernel
theorem dX12_leave_60 : decode cX12_leave 60 = .ok (.aload_n 0, 1) := by decide +kernel
theorem dX12_leave_61 : decode cX12_leave 61 = .ok (.iload_n 1, 1) := by decide +kernel
theorem dX12_leave_62 : decode cX12_leave 62 = .ok (.iconst 0, 1) := by decide +kernel
theorem dX12_leave_63 : decode cX12_leave 63 = .ok (.iconst 0, 1) := by decide +kernel
theorem dX12_leave_64 : decode cX12_leave 64 = .ok (.aload_n 0, 1) := by decide +kernel
theorem dX12_leave_65 : decode cX12_leave 65 = .ok (.getfield 165, 3) := by decide +kernel
theorem dX12_leave_68 : decode cX12_leave 68 = .ok (.iload_n 2, 1) := by decide +kernel
theorem dX12_leave_69 : decode cX12_leave 69 = .ok (.iaload, 1) := by decide +kernel
theorem dX12_leave_70 : decode cX12_leave 70 = .ok (.invokevirtual 413, 3) := by decide +kernel
theorem dX12_leave_73 : decode cX12_leave 73 = .ok (.ifCond .ne 4, 3) := by decide +kernel
theorem dX12_leave_76 : decode cX12_leave 76 = .ok (.return_, 1) := by decide +kernel
theorem dX12_leave_77 : decode cX12_leave 77 = .ok (.aload_n 0, 1) := by decide +kernel
theorem dX12_leave_78 : decode cX12_leave 78 = .ok (.iload_n 1, 1) := by decide +kernel
theorem dX12_leave_79 : decode cX12_leave 79 = .ok (.iconst 5, 1) := by decide +kernel
theorem dX12_leave_80 : decode cX12_leave 80 = .ok (.iconst 0, 1) := by decide +kernel
theorem dX12_leave_81 : decode cX12_leave 81 = .ok (.aload_n 0, 1) := by decide +kernel
theorem dX12_leave_82 : decode cX12_leave 82 = .ok (.getfield 165, 3) := by decide +kernel
theorem dX12_leave_85 : decode cX12_leave 85 = .ok (.iload_n 2, 1) := by decide +kernel
theorem dX12_leave_86 : decode cX12_leave 86 = .ok (.iaload, 1) := by decide +kernel
theorem dX12_leave_87 : decode cX12_leave 87 = .ok (.invokevirtual 413, 3) := by decide +kernel
theorem dX12_leave_90 : decode cX12_leave 90 = .ok (.istore_n 3, 1) := by decide +kernel
theorem dX12_leave_91 : decode cX12_leave 91 = .ok (.iload_n 3, 1) := by decide +kernel
theorem dX12_leave_92 : decode cX12_leave 92 = .ok (.aload_n 0, 1) := by decide +kernel
theorem dX12_leave_93 : decode cX12_leave 93 = .ok (.getfield 272, 3) := by decide +kernel
theorem dX12_leave_96 : decode cX12_leave 96 = .ok (.if_icmp .le 4, 3) := by decide +kernel
theorem dX12_leave_99 : decode cX12_leave 99 = .ok (.return_, 1) := by decide +kernel
theorem dX12_leave_100 : decode cX12_leave 100 = .ok (.aload_n 0, 1) := by decide +kernel
theorem dX12_leave_101 : decode cX12_leave 101 = .ok (.dup, 1) := by decide +kernel
theorem dX12_leave_102 : decode cX12_leave 102 = .ok (.getfield 272, 3) := by decide +kernel
theorem dX12_leave_105 : decode cX12_leave 105 = .ok (.iload_n 3, 1) := by decide +kernel
theorem dX12_leave_106 : decode cX12_leave 106 = .ok (.isub, 1) := by decide +kernel
theorem dX12_leave_107 : decode cX12_leave 107 = .ok (.putfield 272, 3) := by decide +kernel
theorem dX12_leave_110 : decode cX12_leave 110 = .ok (.aload_n 0, 1) := by decide +kernel
theorem dX12_leave_111 : decode cX12_leave 111 = .ok (.iload_n 1, 1) := by decide +kernel
theorem dX12_leave_112 : decode cX12_leave 112 = .ok (.iconst 2, 1) := by decide +kernel
theorem dX12_leave_113 : decode cX12_leave 113 = .ok (.iconst 0, 1) := by decide +kernel
theorem dX12_leave_114 : decode cX12_leave 114 = .ok (.aload_n 0, 1) := by decide +kernel
theorem dX12_leave_115 : decode cX12_leave 115 = .ok (.getfield 165, 3) := by decide +kernel
theorem dX12_leave_118 : decode cX12_leave 118 = .ok (.iload_n 2, 1) := by decide +kernel
theorem dX12_leave_119 : decode cX12_leave 119 = .ok (.iaload, 1) := by decide +kernel
theorem dX12_leave_120 : decode cX12_leave 120 = .ok (.invokevirtual 413, 3) := by decide +kernel
theorem dX12_leave_123 : decode cX12_leave 123 = .ok (.istore 4, 2) := by decide +kernel
theorem dX12_leave_125 : decode cX12_leave 125 = .ok (.iconst 0, 1) := by decide +kernel
theorem dX12_leave_126 : decode cX12_leave 126 = .ok (.istore 5, 2) := by decide +kernel
theorem dX12_leave_128 : decode cX12_leave 128 = .ok (.iconst 0, 1) := by decide +kernel
theorem dX12_leave_129 : decode cX12_leave 129 = .ok (.istore 6, 2) := by decide +kernel
theorem dX12_leave_131 : decode cX12_leave 131 = .ok (.iload 6, 2) := by decide +kernel
theorem dX12_leave_133 : decode cX12_leave 133 = .ok (.sipush 719, 3) := by decide +kernel
theorem dX12_leave_136 : decode cX12_leave 136 = .ok (.if_icmp .gt 166, 3) := by decide +kernel
theorem dX12_leave_139 : decode cX12_leave 139 = .ok (.iload 5, 2) := by decide +kernel
theorem dX12_leave_141 : decode cX12_leave 141 = .ok (.aload_n 0, 1) := by decide +kernel
theorem dX12_leave_142 : decode cX12_leave 142 = .ok (.getfield 58, 3) := by decide +kernel
theorem dX12_leave_145 : decode cX12_leave 145 = .ok (.iload_n 2, 1) := by decide +kernel
theorem dX12_leave_146 : decode cX12_leave 146 = .ok (.iaload, 1) := by decide +kernel
theorem dX12_leave_147 : decode cX12_leave 147 = .ok (.if_icmp .ge 155, 3) := by decide +kernel
theorem dX12_leave_150 : decode cX12_leave 150 = .ok (.iconst 0, 1) := by decide +kernel
theorem dX12_leave_151 : decode cX12_leave 151 = .ok (.istore 7, 2) := by decide +kernel
theorem dX12_leave_153 : decode cX12_leave 153 = .ok (.iload 7, 2) := by decide +kernel
theorem dX12_leave_155 : decode cX12_leave 155 = .ok (.aload_n 0, 1) := by decide +kernel
theorem dX12_leave_156 : decode cX12_leave 156 = .ok (.getfield 254, 3) := by decide +kernel
theorem dX12_leave_159 : decode cX12_leave 159 = .ok (.if_icmp .ge 137, 3) := by decide +kernel
theorem dX12_leave_162 : decode cX12_leave 162 = .ok (.iload 5, 2) := by decide +kernel
theorem dX12_leave_164 : decode cX12_leave 164 = .ok (.aload_n 0, 1) := by decide +kernel
theorem dX12_leave_165 : decode cX12_leave 165 = .ok (.getfield 58, 3) := by decide +kernel
theorem dX12_leave_168 : decode cX12_leave 168 = .ok (.iload_n 2, 1) := by decide +kernel
theorem dX12_leave_169 : decode cX12_leave 169 = .ok (.iaload, 1) := by decide +kernel
theorem dX12_leave_170 : decode cX12_leave 170 = .ok (.if_icmp .ge 126, 3) := by decide +kernel
theorem dX12_leave_173 : decode cX12_leave 173 = .ok (.aload_n 0, 1) := by decide +kernel
theorem dX12_leave_174 : decode cX12_leave 174 = .ok (.getfield 31, 3) := by decide +kernel
theorem dX12_leave_177 : decode cX12_leave 177 = .ok (.iload 7, 2) := by decide +kernel
theorem dX12_leave_179 : decode cX12_leave 179 = .ok (.iaload, 1) := by decide +kernel
theorem dX12_leave_180 : decode cX12_leave 180 = .ok (.iload 6, 2) := by decide +kernel
theorem dX12_leave_182 : decode cX12_leave 182 = .ok (.if_icmp .ne 108, 3) := by decide +kernel
theorem dX12_leave_185 : decode cX12_leave 185 = .ok (.aload_n 0, 1) := by decide +kernel
theorem dX12_leave_186 : decode cX12_leave 186 = .ok (.getfield 135, 3) := by decide +kernel
theorem dX12_leave_189 : decode cX12_leave 189 = .ok (.iload 7, 2) := by decide +kernel
theorem dX12_leave_191 : decode cX12_leave 191 = .ok (.iaload, 1) := by decide +kernel
theorem dX12_leave_192 : decode cX12_leave 192 = .ok (.iconst 2, 1) := by decide +kernel
theorem dX12_leave_193 : decode cX12_leave 193 = .ok (.if_icmp .ne 97, 3) := by decide +kernel
theorem dX12_leave_196 : decode cX12_leave 196 = .ok (.aload_n 0, 1) := by decide +kernel
theorem dX12_leave_197 : decode cX12_leave 197 = .ok (.getfield 144, 3) := by decide +kernel
theorem dX12_leave_200 : decode cX12_leave 200 = .ok (.iload 7, 2) := by decide +kernel
theorem dX12_leave_202 : decode cX12_leave 202 = .ok (.iaload, 1) := by decide +kernel
theorem dX12_leave_203 : decode cX12_leave 203 = .ok (.iload_n 1, 1) := by decide +kernel
theorem dX12_leave_204 : decode cX12_leave 204 = .ok (.if_icmp .ne 86, 3) := by decide +kernel
theorem dX12_leave_207 : decode cX12_leave 207 = .ok (.aload_n 0, 1) := by decide +kernel
theorem dX12_leave_208 : decode cX12_leave 208 = .ok (.getfield 40, 3) := by decide +kernel
theorem dX12_leave_211 : decode cX12_leave 211 = .ok (.iload 7, 2) := by decide +kernel
theorem dX12_leave_213 : decode cX12_leave 213 = .ok (.iaload, 1) := by decide +kernel
theorem dX12_leave_214 : decode cX12_leave 214 = .ok (.iload 4, 2) := by decide +kernel
theorem dX12_leave_216 : decode cX12_leave 216 = .ok (.if_icmp .ge 6, 3) := by decide +kernel
theorem dX12_leave_219 : decode cX12_leave 219 = .ok (.goto 71, 3) := by decide +kernel
theorem dX12_leave_222 : decode cX12_leave 222 = .ok (.aload_n 0, 1) := by decide +kernel
theorem dX12_leave_223 : decode cX12_leave 223 = .ok (.getfield 40, 3) := by decide +kernel
theorem dX12_leave_226 : decode cX12_leave 226 = .ok (.iload 7, 2) := by decide +kernel
theorem dX12_leave_228 : decode cX12_leave 228 = .ok (.dup2, 1) := by decide +kernel
theorem dX12_leave_229 : decode cX12_leave 229 = .ok (.iaload, 1) := by decide +kernel
theorem dX12_leave_230 : decode cX12_leave 230 = .ok (.iload 4, 2) := by decide +kernel
theorem dX12_leave_232 : decode cX12_leave 232 = .ok (.isub, 1) := by decide +kernel
theorem dX12_leave_233 : decode cX12_leave 233 = .ok (.iastore, 1) := by decide +kernel
theorem dX12_leave_234 : decode cX12_leave 234 = .ok (.aload_n 0, 1) := by decide +kernel
theorem dX12_leave_235 : decode cX12_leave 235 = .ok (.getfield 52, 3) := by decide +kernel
theorem dX12_leave_238 : decode cX12_leave 238 = .ok (.iload_n 2, 1) := by decide +kernel
theorem dX12_leave_239 : decode cX12_leave 239 = .ok (.iaload, 1) := by decide +kernel
theorem dX12_leave_240 : decode cX12_leave 240 = .ok (.iconst 2, 1) := by decide +kernel
theorem dX12_leave_241 : decode cX12_leave 241 = .ok (.if_icmp .ne 24, 3) := by decide +kernel
theorem dX12_leave_244 : decode cX12_leave 244 = .ok (.aload_n 0, 1) := by decide +kernel
theorem dX12_leave_245 : decode cX12_leave 245 = .ok (.getfield 64, 3) := by decide +kernel
theorem dX12_leave_248 : decode cX12_leave 248 = .ok (.iload_n 2, 1) := by decide +kernel
theorem dX12_leave_249 : decode cX12_leave 249 = .ok (.aload_n 0, 1) := by decide +kernel
theorem dX12_leave_250 : decode cX12_leave 250 = .ok (.getfield 64, 3) := by decide +kernel
theorem dX12_leave_253 : decode cX12_leave 253 = .ok (.iload_n 2, 1) := by decide +kernel
theorem dX12_leave_254 : decode cX12_leave 254 = .ok (.iaload, 1) := by decide +kernel
theorem dX12_leave_255 : decode cX12_leave 255 = .ok (.iload 4, 2) := by decide +kernel
theorem dX12_leave_257 : decode cX12_leave 257 = .ok (.iadd, 1) := by decide +kernel
theorem dX12_leave_258 : decode cX12_leave 258 = .ok (.invokestatic 275, 3) := by decide +kernel
theorem dX12_leave_261 : decode cX12_leave 261 = .ok (.iastore, 1) := by decide +kernel
theorem dX12_leave_262 : decode cX12_leave 262 = .ok (.goto 17, 3) := by decide +kernel
theorem dX12_leave_265 : decode cX12_leave 265 = .ok (.aload_n 0, 1) := by decide +kernel
theorem dX12_leave_266 : decode cX12_leave 266 = .ok (.aload_n 0, 1) := by decide +kernel
theorem dX12_leave_267 : decode cX12_leave 267 = .ok (.getfield 272, 3) := by decide +kernel
theorem dX12_leave_270 : decode cX12_leave 270 = .ok (.iload 4, 2) := by decide +kernel
theorem dX12_leave_272 : decode cX12_leave 272 = .ok (.iadd, 1) := by decide +kernel
theorem dX12_leave_273 : decode cX12_leave 273 = .ok (.invokestatic 275, 3) := by decide +kernel
theorem dX12_leave_276 : decode cX12_leave 276 = .ok (.putfield 272, 3) := by decide +kernel
theorem dX12_leave_279 : decode cX12_leave 279 = .ok (.aload_n 0, 1) := by decide +kernel
theorem dX12_leave_280 : decode cX12_leave 280 = .ok (.getfield 135, 3) := by decide +kernel
theorem dX12_leave_283 : decode cX12_leave 283 = .ok (.iload 7, 2) := by decide +kernel
theorem dX12_leave_285 : decode cX12_leave 285 = .ok (.iconst 3, 1) := by decide +kernel
theorem dX12_leave_286 : decode cX12_leave 286 = .ok (.iastore, 1) := by decide +kernel
theorem dX12_leave_287 : decode cX12_leave 287 = .ok (.iinc 5 1, 3) := by decide +kernel
theorem dX12_leave_290 : decode cX12_leave 290 = .ok (.iinc 7 1, 3) := by decide +kernel
theorem dX12_leave_293 : decode cX12_leave 293 = .ok (.goto (-140), 3) := by decide +kernel
theorem dX12_leave_296 : decode cX12_leave 296 = .ok (.iinc 6 1, 3) := by decide +kernel
theorem dX12_leave_299 : decode cX12_leave 299 = .ok (.goto (-168), 3) := by decide +kernel
theorem dX12_leave_302 : decode cX12_leave 302 = .ok (.iconst 0, 1) := by decide +kernel
theorem dX12_leave_303 : decode cX12_leave 303 = .ok (.istore 6, 2) := by decide +kernel
theorem dX12_leave_305 : decode cX12_leave 305 = .ok (.aload_n 0, 1) := by decide +kernel
theorem dX12_leave_306 : decode cX12_leave 306 = .ok (.iload_n 1, 1) := by decide +kernel
theorem dX12_leave_307 : decode cX12_leave 307 = .ok (.iconst 1, 1) := by decide +kernel
theorem dX12_leave_308 : decode cX12_leave 308 = .ok (.iload 5, 2) := by decide +kernel
theorem dX12_leave_310 : decode cX12_leave 310 = .ok (.aload_n 0, 1) := by decide +kernel
theorem dX12_leave_311 : decode cX12_leave 311 = .ok (.getfield 165, 3) := by decide +kernel
theorem dX12_leave_314 : decode cX12_leave 314 = .ok (.iload_n 2, 1) := by decide +kernel
theorem dX12_leave_315 : decode cX12_leave 315 = .ok (.iaload, 1) := by decide +kernel
theorem dX12_leave_316 : decode cX12_leave 316 = .ok (.invokevirtual 413, 3) := by decide +kernel
theorem dX12_leave_319 : decode cX12_leave 319 = .ok (.iconst 1, 1) := by decide +kernel
theorem dX12_leave_320 : decode cX12_leave 320 = .ok (.if_icmp .ne 176, 3) := by decide +kernel
theorem dX12_leave_323 : decode cX12_leave 323 = .ok (.aload_n 0, 1) := by decide +kernel
theorem dX12_leave_324 : decode cX12_leave 324 = .ok (.iload_n 1, 1) := by decide +kernel
theorem dX12_leave_325 : decode cX12_leave 325 = .ok (.iconst 4, 1) := by decide +kernel
theorem dX12_leave_326 : decode cX12_leave 326 = .ok (.iload 5, 2) := by decide +kernel
theorem dX12_leave_328 : decode cX12_leave 328 = .ok (.aload_n 0, 1) := by decide +kernel
theorem dX12_leave_329 : decode cX12_leave 329 = .ok (.getfield 165, 3) := by decide +kernel
theorem dX12_leave_332 : decode cX12_leave 332 = .ok (.iload_n 2, 1) := by decide +kernel
theorem dX12_leave_333 : decode cX12_leave 333 = .ok (.iaload, 1) := by decide +kernel
theorem dX12_leave_334 : decode cX12_leave 334 = .ok (.invokevirtual 413, 3) := by decide +kernel
theorem dX12_leave_337 : decode cX12_leave 337 = .ok (.istore 7, 2) := by decide +kernel
theorem dX12_leave_339 : decode cX12_leave 339 = .ok (.aload_n 0, 1) := by decide +kernel
theorem dX12_leave_340 : decode cX12_leave 340 = .ok (.iload_n 1, 1) := by decide +kernel
theorem dX12_leave_341 : decode cX12_leave 341 = .ok (.iconst 3, 1) := by decide +kernel
theorem dX12_leave_342 : decode cX12_leave 342 = .ok (.iload 5, 2) := by decide +kernel
theorem dX12_leave_344 : decode cX12_leave 344 = .ok (.aload_n 0, 1) := by decide +kernel
theorem dX12_leave_345 : decode cX12_leave 345 = .ok (.getfield 165, 3) := by decide +kernel
theorem dX12_leave_348 : decode cX12_leave 348 = .ok (.iload_n 2, 1) := by decide +kernel
theorem dX12_leave_349 : decode cX12_leave 349 = .ok (.iaload, 1) := by decide +kernel
theorem dX12_leave_350 : decode cX12_leave 350 = .ok (.invokevirtual 413, 3) := by decide +kernel
theorem dX12_leave_353 : decode cX12_leave 353 = .ok (.istore 6, 2) := by decide +kernel
theorem dX12_leave_355 : decode cX12_leave 355 = .ok (.aload_n 0, 1) := by decide +kernel
theorem dX12_leave_356 : decode cX12_leave 356 = .ok (.getfield 165, 3) := by decide +kernel
theorem dX12_leave_359 : decode cX12_leave 359 = .ok (.iload_n 2, 1) := by decide +kernel
theorem dX12_leave_360 : decode cX12_leave 360 = .ok (.dup2, 1) := by decide +kernel
theorem dX12_leave_361 : decode cX12_leave 361 = .ok (.iaload, 1) := by decide +kernel
theorem dX12_leave_362 : decode cX12_leave 362 = .ok (.iconst 1, 1) := by decide +kernel
theorem dX12_leave_363 : decode cX12_leave 363 = .ok (.iadd, 1) := by decide +kernel
theorem dX12_leave_364 : decode cX12_leave 364 = .ok (.iastore, 1) := by decide +kernel
theorem dX12_leave_365 : decode cX12_leave 365 = .ok (.aload_n 0, 1) := by decide +kernel
theorem dX12_leave_366 : decode cX12_leave 366 = .ok (.getfield 52, 3) := by decide +kernel
theorem dX12_leave_369 : decode cX12_leave 369 = .ok (.iload_n 2, 1) := by decide +kernel
theorem dX12_leave_370 : decode cX12_leave 370 = .ok (.iaload, 1) := by decide +kernel
theorem dX12_leave_371 : decode cX12_leave 371 = .ok (.iconst 2, 1) := by decide +kernel
theorem dX12_leave_372 : decode cX12_leave 372 = .ok (.if_icmp .ne 12, 3) := by decide +kernel
theorem dX12_leave_375 : decode cX12_leave 375 = .ok (.aload_n 0, 1) := by decide +kernel
theorem dX12_leave_376 : decode cX12_leave 376 = .ok (.getfield 64, 3) := by decide +kernel
theorem dX12_leave_379 : decode cX12_leave 379 = .ok (.iload_n 2, 1) := by decide +kernel
theorem dX12_leave_380 : decode cX12_leave 380 = .ok (.iaload, 1) := by decide +kernel
theorem dX12_leave_381 : decode cX12_leave 381 = .ok (.goto 7, 3) := by decide +kernel
theorem dX12_leave_384 : decode cX12_leave 384 = .ok (.aload_n 0, 1) := by decide +kernel
theorem dX12_leave_385 : decode cX12_leave 385 = .ok (.getfield 272, 3) := by decide +kernel
theorem dX12_leave_388 : decode cX12_leave 388 = .ok (.iload 7, 2) := by decide +kernel
theorem dX12_leave_390 : decode cX12_leave 390 = .ok (.if_icmp .lt 7, 3) := by decide +kernel
theorem dX12_leave_393 : decode cX12_leave 393 = .ok (.iconst 1, 1) := by decide +kernel
theorem dX12_leave_394 : decode cX12_leave 394 = .ok (.goto 4, 3) := by decide +kernel
theorem dX12_leave_397 : decode cX12_leave 397 = .ok (.iconst 0, 1) := by decide +kernel
theorem dX12_leave_398 : decode cX12_leave 398 = .ok (.istore 8, 2) := by decide +kernel
theorem dX12_leave_400 : decode cX12_leave 400 = .ok (.iload 8, 2) := by decide +kernel
theorem dX12_leave_402 : decode cX12_leave 402 = .ok (.ifCond .ne 59, 3) := by decide +kernel
theorem dX12_leave_405 : decode cX12_leave 405 = .ok (.aload_n 0, 1) := by decide +kernel
theorem dX12_leave_406 : decode cX12_leave 406 = .ok (.getfield 168, 3) := by decide +kernel
theorem dX12_leave_409 : decode cX12_leave 409 = .ok (.iload_n 2, 1) := by decide +kernel
theorem dX12_leave_410 : decode cX12_leave 410 = .ok (.iconst 1, 1) := by decide +kernel
theorem dX12_leave_411 : decode cX12_leave 411 = .ok (.iastore, 1) := by decide +kernel
theorem dX12_leave_412 : decode cX12_leave 412 = .ok (.iconst 0, 1) := by decide +kernel
theorem dX12_leave_413 : decode cX12_leave 413 = .ok (.istore 9, 2) := by decide +kernel
theorem dX12_leave_415 : decode cX12_leave 415 = .ok (.iload 9, 2) := by decide +kernel
theorem dX12_leave_417 : decode cX12_leave 417 = .ok (.aload_n 0, 1) := by decide +kernel
theorem dX12_leave_418 : decode cX12_leave 418 = .ok (.getfield 254, 3) := by decide +kernel
theorem dX12_leave_421 : decode cX12_leave 421 = .ok (.if_icmp .ge 39, 3) := by decide +kernel
theorem dX12_leave_424 : decode cX12_leave 424 = .ok (.aload_n 0, 1) := by decide +kernel
theorem dX12_leave_425 : decode cX12_leave 425 = .ok (.getfield 135, 3) := by decide +kernel
theorem dX12_leave_428 : decode cX12_leave 428 = .ok (.iload 9, 2) := by decide +kernel
theorem dX12_leave_430 : decode cX12_leave 430 = .ok (.iaload, 1) := by decide +kernel
theorem dX12_leave_431 : decode cX12_leave 431 = .ok (.iconst 3, 1) := by decide +kernel
theorem dX12_leave_432 : decode cX12_leave 432 = .ok (.if_icmp .ne 22, 3) := by decide +kernel
theorem dX12_leave_435 : decode cX12_leave 435 = .ok (.aload_n 0, 1) := by decide +kernel
theorem dX12_leave_436 : decode cX12_leave 436 = .ok (.getfield 144, 3) := by decide +kernel
theorem dX12_leave_439 : decode cX12_leave 439 = .ok (.iload 9, 2) := by decide +kernel
theorem dX12_leave_441 : decode cX12_leave 441 = .ok (.iaload, 1) := by decide +kernel
theorem dX12_leave_442 : decode cX12_leave 442 = .ok (.iload_n 1, 1) := by decide +kernel
theorem dX12_leave_443 : decode cX12_leave 443 = .ok (.if_icmp .ne 11, 3) := by decide +kernel
theorem dX12_leave_446 : decode cX12_leave 446 = .ok (.aload_n 0, 1) := by decide +kernel
theorem dX12_leave_447 : decode cX12_leave 447 = .ok (.getfield 135, 3) := by decide +kernel
theorem dX12_leave_450 : decode cX12_leave 450 = .ok (.iload 9, 2) := by decide +kernel
theorem dX12_leave_452 : decode cX12_leave 452 = .ok (.iconst 2, 1) := by decide +kernel
theorem dX12_leave_453 : decode cX12_leave 453 = .ok (.iastore, 1) := by decide +kernel
theorem dX12_leave_454 : decode cX12_leave 454 = .ok (.iinc 9 1, 3) := by decide +kernel
theorem dX12_leave_457 : decode cX12_leave 457 = .ok (.goto (-42), 3) := by decide +kernel
theorem dX12_leave_460 : decode cX12_leave 460 = .ok (.return_, 1) := by decide +kernel
theorem dX12_leave_461 : decode cX12_leave 461 = .ok (.aload_n 0, 1) := by decide +kernel
theorem dX12_leave_462 : decode cX12_leave 462 = .ok (.getfield 52, 3) := by decide +kernel
theorem dX12_leave_465 : decode cX12_leave 465 = .ok (.iload_n 2, 1) := by decide +kernel
theorem dX12_leave_466 : decode cX12_leave 466 = .ok (.iaload, 1) := by decide +kernel
theorem dX12_leave_467 : decode cX12_leave 467 = .ok (.iconst 2, 1) := by decide +kernel
theorem dX12_leave_468 : decode cX12_leave 468 = .ok (.if_icmp .ne 17, 3) := by decide +kernel
theorem dX12_leave_471 : decode cX12_leave 471 = .ok (.aload_n 0, 1) := by decide +kernel
theorem dX12_leave_472 : decode cX12_leave 472 = .ok (.getfield 64, 3) := by decide +kernel
theorem dX12_leave_475 : decode cX12_leave 475 = .ok (.iload_n 2, 1) := by decide +kernel
theorem dX12_leave_476 : decode cX12_leave 476 = .ok (.dup2, 1) := by decide +kernel
theorem dX12_leave_477 : decode cX12_leave 477 = .ok (.iaload, 1) := by decide +kernel
theorem dX12_leave_478 : decode cX12_leave 478 = .ok (.iload 7, 2) := by decide +kernel
theorem dX12_leave_480 : decode cX12_leave 480 = .ok (.isub, 1) := by decide +kernel
theorem dX12_leave_481 : decode cX12_leave 481 = .ok (.iastore, 1) := by decide +kernel
theorem dX12_leave_482 : decode cX12_leave 482 = .ok (.goto 14, 3) := by decide +kernel
theorem dX12_leave_485 : decode cX12_leave 485 = .ok (.aload_n 0, 1) := by decide +kernel
theorem dX12_leave_486 : decode cX12_leave 486 = .ok (.dup, 1) := by decide +kernel
theorem dX12_leave_487 : decode cX12_leave 487 = .ok (.getfield 272, 3) := by decide +kernel
theorem dX12_leave_490 : decode cX12_leave 490 = .ok (.iload 7, 2) := by decide +kernel
theorem dX12_leave_492 : decode cX12_leave 492 = .ok (.isub, 1) := by decide +kernel
theorem dX12_leave_493 : decode cX12_leave 493 = .ok (.putfield 272, 3) := by decide +kernel
theorem dX12_leave_496 : decode cX12_leave 496 = .ok (.aload_n 0, 1) := by decide +kernel
theorem dX12_leave_497 : decode cX12_leave 497 = .ok (.getfield 171, 3) := by decide +kernel
theorem dX12_leave_500 : decode cX12_leave 500 = .ok (.iload_n 1, 1) := by decide +kernel
theorem dX12_leave_501 : decode cX12_leave 501 = .ok (.iload 5, 2) := by decide +kernel
theorem dX12_leave_503 : decode cX12_leave 503 = .ok (.iastore, 1) := by decide +kernel
theorem dX12_leave_504 : decode cX12_leave 504 = .ok (.aload_n 0, 1) := by decide +kernel
theorem dX12_leave_505 : decode cX12_leave 505 = .ok (.getfield 159, 3) := by decide +kernel
theorem dX12_leave_508 : decode cX12_leave 508 = .ok (.iload_n 2, 1) := by decide +kernel
theorem dX12_leave_509 : decode cX12_leave 509 = .ok (.aload_n 0, 1) := by decide +kernel
theorem dX12_leave_510 : decode cX12_leave 510 = .ok (.getfield 73, 3) := by decide +kernel
theorem dX12_leave_513 : decode cX12_leave 513 = .ok (.iload_n 1, 1) := by decide +kernel
theorem dX12_leave_514 : decode cX12_leave 514 = .ok (.iaload, 1) := by decide +kernel
theorem dX12_leave_515 : decode cX12_leave 515 = .ok (.iastore, 1) := by decide +kernel
theorem dX12_leave_516 : decode cX12_leave 516 = .ok (.aload_n 0, 1) := by decide +kernel
theorem dX12_leave_517 : decode cX12_leave 517 = .ok (.getfield 162, 3) := by decide +kernel
theorem dX12_leave_520 : decode cX12_leave 520 = .ok (.iload_n 2, 1) := by decide +kernel
theorem dX12_leave_521 : decode cX12_leave 521 = .ok (.aload_n 0, 1) := by decide +kernel
theorem dX12_leave_522 : decode cX12_leave 522 = .ok (.getfield 443, 3) := by decide +kernel
theorem dX12_leave_525 : decode cX12_leave 525 = .ok (.iload 6, 2) := by decide +kernel
theorem dX12_leave_527 : decode cX12_leave 527 = .ok (.iadd, 1) := by decide +kernel
theorem dX12_leave_528 : decode cX12_leave 528 = .ok (.aload_n 0, 1) := by decide +kernel
theorem dX12_leave_529 : decode cX12_leave 529 = .ok (.iload_n 1, 1) := by decide +kernel
theorem dX12_leave_530 : decode cX12_leave 530 = .ok (.invokevirtual 436, 3) := by decide +kernel
theorem dX12_leave_533 : decode cX12_leave 533 = .ok (.iadd, 1) := by decide +kernel
theorem dX12_leave_534 : decode cX12_leave 534 = .ok (.iastore, 1) := by decide +kernel
theorem dX12_leave_535 : decode cX12_leave 535 = .ok (.iconst 0, 1) := by decide +kernel
theorem dX12_leave_536 : decode cX12_leave 536 = .ok (.istore 7, 2) := by decide +kernel
theorem dX12_leave_538 : decode cX12_leave 538 = .ok (.iload 7, 2) := by decide +kernel
theorem dX12_leave_540 : decode cX12_leave 540 = .ok (.aload_n 0, 1) := by decide +kernel
theorem dX12_leave_541 : decode cX12_leave 541 = .ok (.getfield 254, 3) := by decide +kernel
theorem dX12_leave_544 : decode cX12_leave 544 = .ok (.if_icmp .ge 42, 3) := by decide +kernel
theorem dX12_leave_547 : decode cX12_leave 547 = .ok (.aload_n 0, 1) := by decide +kernel
theorem dX12_leave_548 : decode cX12_leave 548 = .ok (.getfield 135, 3) := by decide +kernel
theorem dX12_leave_551 : decode cX12_leave 551 = .ok (.iload 7, 2) := by decide +kernel
theorem dX12_leave_553 : decode cX12_leave 553 = .ok (.iaload, 1) := by decide +kernel
theorem dX12_leave_554 : decode cX12_leave 554 = .ok (.iconst 3, 1) := by decide +kernel
theorem dX12_leave_555 : decode cX12_leave 555 = .ok (.if_icmp .ne 25, 3) := by decide +kernel
theorem dX12_leave_558 : decode cX12_leave 558 = .ok (.aload_n 0, 1) := by decide +kernel
theorem dX12_leave_559 : decode cX12_leave 559 = .ok (.getfield 144, 3) := by decide +kernel
theorem dX12_leave_562 : decode cX12_leave 562 = .ok (.iload 7, 2) := by decide +kernel
theorem dX12_leave_564 : decode cX12_leave 564 = .ok (.iaload, 1) := by decide +kernel
theorem dX12_leave_565 : decode cX12_leave 565 = .ok (.iload_n 1, 1) := by decide +kernel
theorem dX12_leave_566 : decode cX12_leave 566 = .ok (.if_icmp .ne 14, 3) := by decide +kernel
theorem dX12_leave_569 : decode cX12_leave 569 = .ok (.aload_n 0, 1) := by decide +kernel
theorem dX12_leave_570 : decode cX12_leave 570 = .ok (.getfield 156, 3) := by decide +kernel
theorem dX12_leave_573 : decode cX12_leave 573 = .ok (.iload 7, 2) := by decide +kernel
theorem dX12_leave_575 : decode cX12_leave 575 = .ok (.dup2, 1) := by decide +kernel
theorem dX12_leave_576 : decode cX12_leave 576 = .ok (.iaload, 1) := by decide +kernel
theorem dX12_leave_577 : decode cX12_leave 577 = .ok (.iconst 1, 1) := by decide +kernel
theorem dX12_leave_578 : decode cX12_leave 578 = .ok (.iadd, 1) := by decide +kernel
theorem dX12_leave_579 : decode cX12_leave 579 = .ok (.iastore, 1) := by decide +kernel
theorem dX12_leave_580 : decode cX12_leave 580 = .ok (.iinc 7 1, 3) := by decide +kernel
theorem dX12_leave_583 : decode cX12_leave 583 = .ok (.goto (-45), 3) := by decide +kernel
theorem dX12_leave_586 : decode cX12_leave 586 = .ok (.return_, 1) := by decide +kernel
theorem dX12_morning_0 : decode cX12_morning 0 = .ok (.aload_n 0, 1) := by decide +kernel
theorem dX12_morning_1 : decode cX12_morning 1 = .ok (.iconst 0, 1) := by decide +kernel
theorem dX12_morning_2 : decode cX12_morning 2 = .ok (.putfield 204, 3) := by decide +kernel
theorem dX12_morning_5 : decode cX12_morning 5 = .ok (.aload_n 0, 1) := by decide +kernel
theorem dX12_morning_6 : decode cX12_morning 6 = .ok (.getfield 183, 3) := by decide +kernel
theorem dX12_morning_9 : decode cX12_morning 9 = .ok (.aload_n 0, 1) := by decide +kernel
theorem dX12_morning_10 : decode cX12_morning 10 = .ok (.getfield 218, 3) := by decide +kernel
theorem dX12_morning_13 : decode cX12_morning 13 = .ok (.if_icmp .ne 5, 3) := by decide +kernel
theorem dX12_morning_16 : decode cX12_morning 16 = .ok (.iconst (-1), 1) := by decide +kernel
theorem dX12_morning_17 : decode cX12_morning 17 = .ok (.ireturn, 1) := by decide +kernel
theorem dX12_morning_18 : decode cX12_morning 18 = .ok (.aload_n 0, 1) := by decide +kernel
theorem dX12_morning_19 : decode cX12_morning 19 = .ok (.aload_n 0, 1) := by decide +kernel
theorem dX12_morning_20 : decode cX12_morning 20 = .ok (.getfield 218, 3) := by decide +kernel
theorem dX12_morning_23 : decode cX12_morning 23 = .ok (.putfield 183, 3) := by decide +kernel
theorem dX12_morning_26 : decode cX12_morning 26 = .ok (.aload_n 0, 1) := by decide +kernel
theorem dX12_morning_27 : decode cX12_morning 27 = .ok (.iconst (-1), 1) := by decide +kernel
theorem dX12_morning_28 : decode cX12_morning 28 = .ok (.invokevirtual 468, 3) := by decide +kernel
theorem dX12_morning_31 : decode cX12_morning 31 = .ok (.iconst 0, 1) := by decide +kernel
theorem dX12_morning_32 : decode cX12_morning 32 = .ok (.istore_n 1, 1) := by decide +kernel
theorem dX12_morning_33 : decode cX12_morning 33 = .ok (.iload_n 1, 1) := by decide +kernel
theorem dX12_morning_34 : decode cX12_morning 34 = .ok (.aload_n 0, 1) := by decide +kernel
theorem dX12_morning_35 : decode cX12_morning 35 = .ok (.getfield 269, 3) := by decide +kernel
theorem dX12_morning_38 : decode cX12_morning 38 = .ok (.if_icmp .ge 21, 3) := by decide +kernel
theorem dX12_morning_41 : decode cX12_morning 41 = .ok (.aload_n 0, 1) := by decide +kernel
theorem dX12_morning_42 : decode cX12_morning 42 = .ok (.getfield 174, 3) := by decide +kernel
theorem dX12_morning_45 : decode cX12_morning 45 = .ok (.iload_n 1, 1) := by decide +kernel
theorem dX12_morning_46 : decode cX12_morning 46 = .ok (.aload_n 0, 1) := by decide +kernel
theorem dX12_morning_47 : decode cX12_morning 47 = .ok (.getfield 171, 3) := by decide +kernel
theorem dX12_morning_50 : decode cX12_morning 50 = .ok (.iload_n 1, 1) := by decide +kernel
theorem dX12_morning_51 : decode cX12_morning 51 = .ok (.iaload, 1) := by decide +kernel
theorem dX12_morning_52 : decode cX12_morning 52 = .ok (.iastore, 1) := by decide +kernel
theorem dX12_morning_53 : decode cX12_morning 53 = .ok (.iinc 1 1, 3) := by decide +kernel
theorem dX12_morning_56 : decode cX12_morning 56 = .ok (.goto (-23), 3) := by decide +kernel
theorem dX12_morning_59 : decode cX12_morning 59 = .ok (.aload_n 0, 1) := by decide +kernel
theorem dX12_morning_60 : decode cX12_morning 60 = .ok (.invokevirtual 471, 3) := by decide +kernel
theorem dX12_morning_63 : decode cX12_morning 63 = .ok (.ireturn, 1) := by decide +kernel
theorem dX12_putBack_0 : decode cX12_putBack 0 = .ok (.iconst 0, 1) := by decide +kernel
theorem dX12_putBack_1 : decode cX12_putBack 1 = .ok (.istore_n 3, 1) := by decide +kernel
theorem dX12_putBack_2 : decode cX12_putBack 2 = .ok (.iload_n 3, 1) := by decide +kernel
theorem dX12_putBack_3 : decode cX12_putBack 3 = .ok (.iload_n 2, 1) := by decide +kernel
theorem dX12_putBack_4 : decode cX12_putBack 4 = .ok (.if_icmp .ge 31, 3) := by decide +kernel
theorem dX12_putBack_7 : decode cX12_putBack 7 = .ok (.aload_n 1, 1) := by decide +kernel
theorem dX12_putBack_8 : decode cX12_putBack 8 = .ok (.iload_n 3, 1) := by decide +kernel
theorem dX12_putBack_9 : decode cX12_putBack 9 = .ok (.aload_n 0, 1) := by decide +kernel
theorem dX12_putBack_10 : decode cX12_putBack 10 = .ok (.getfield 186, 3) := by decide +kernel
theorem dX12_putBack_13 : decode cX12_putBack 13 = .ok (.aload_n 0, 1) := by decide +kernel
theorem dX12_putBack_14 : decode cX12_putBack 14 = .ok (.getfield 474, 3) := by decide +kernel
theorem dX12_putBack_17 : decode cX12_putBack 17 = .ok (.iaload, 1) := by decide +kernel
theorem dX12_putBack_18 : decode cX12_putBack 18 = .ok (.iastore, 1) := by decide +kernel
theorem dX12_putBack_19 : decode cX12_putBack 19 = .ok (.aload_n 0, 1) := by decide +kernel
theorem dX12_putBack_20 : decode cX12_putBack 20 = .ok (.dup, 1) := by decide +kernel
theorem dX12_putBack_21 : decode cX12_putBack 21 = .ok (.getfield 474, 3) := by decide +kernel
theorem dX12_putBack_24 : decode cX12_putBack 24 = .ok (.iconst 1, 1) := by decide +kernel
theorem dX12_putBack_25 : decode cX12_putBack 25 = .ok (.iadd, 1) := by decide +kernel
theorem dX12_putBack_26 : decode cX12_putBack 26 = .ok (.putfield 474, 3) := by decide +kernel
theorem dX12_putBack_29 : decode cX12_putBack 29 = .ok (.iinc 3 1, 3) := by decide +kernel
theorem dX12_putBack_32 : decode cX12_putBack 32 = .ok (.goto (-30), 3) := by decide +kernel
theorem dX12_putBack_35 : decode cX12_putBack 35 = .ok (.return_, 1) := by decide +kernel
theorem dX12_step_0 : decode cX12_step 0 = .ok (.iconst 0, 1) := by decide +kernel
theorem dX12_step_1 : decode cX12_step 1 = .ok (.istore_n 1, 1) := by decide +kernel
theorem dX12_step_2 : decode cX12_step 2 = .ok (.iload_n 1, 1) := by decide +kernel
theorem dX12_step_3 : decode cX12_step 3 = .ok (.aload_n 0, 1) := by decide +kernel
theorem dX12_step_4 : decode cX12_step 4 = .ok (.getfield 263, 3) := by decide +kernel
theorem dX12_step_7 : decode cX12_step 7 = .ok (.if_icmp .ge 29, 3) := by decide +kernel
theorem dX12_step_10 : decode cX12_step 10 = .ok (.aload_n 0, 1) := by decide +kernel
theorem dX12_step_11 : decode cX12_step 11 = .ok (.getfield 162, 3) := by decide +kernel
theorem dX12_step_14 : decode cX12_step 14 = .ok (.iload_n 1, 1) := by decide +kernel
theorem dX12_step_15 : decode cX12_step 15 = .ok (.iaload, 1) := by decide +kernel
theorem dX12_step_16 : decode cX12_step 16 = .ok (.aload_n 0, 1) := by decide +kernel
theorem dX12_step_17 : decode cX12_step 17 = .ok (.getfield 443, 3) := by decide +kernel
theorem dX12_step_20 : decode cX12_step 20 = .ok (.if_icmp .ne 10, 3) := by decide +kernel
theorem dX12_step_23 : decode cX12_step 23 = .ok (.aload_n 0, 1) := by decide +kernel
theorem dX12_step_24 : decode cX12_step 24 = .ok (.getfield 162, 3) := by decide +kernel
theorem dX12_step_27 : decode cX12_step 27 = .ok (.iload_n 1, 1) := by decide +kernel
theorem dX12_step_28 : decode cX12_step 28 = .ok (.iconst (-1), 1) := by decide +kernel
theorem dX12_step_29 : decode cX12_step 29 = .ok (.iastore, 1) := by decide +kernel
theorem dX12_step_30 : decode cX12_step 30 = .ok (.iinc 1 1, 3) := by decide +kernel
theorem dX12_step_33 : decode cX12_step 33 = .ok (.goto (-31), 3) := by decide +kernel
theorem dX12_step_36 : decode cX12_step 36 = .ok (.iconst 0, 1) := by decide +kernel
theorem dX12_step_37 : decode cX12_step 37 = .ok (.istore_n 1, 1) := by decide +kernel
theorem dX12_step_38 : decode cX12_step 38 = .ok (.iload_n 1, 1) := by decide +kernel
theorem dX12_step_39 : decode cX12_step 39 = .ok (.aload_n 0, 1) := by decide +kernel
theorem dX12_step_40 : decode cX12_step 40 = .ok (.getfield 254, 3) := by decide +kernel
theorem dX12_step_43 : decode cX12_step 43 = .ok (.if_icmp .ge 73, 3) := by decide +kernel
theorem dX12_step_46 : decode cX12_step 46 = .ok (.aload_n 0, 1) := by decide +kernel
theorem dX12_step_47 : decode cX12_step 47 = .ok (.getfield 135, 3) := by decide +kernel
theorem dX12_step_50 : decode cX12_step 50 = .ok (.iload_n 1, 1) := by decide +kernel
theorem dX12_step_51 : decode cX12_step 51 = .ok (.iaload, 1) := by decide +kernel
theorem dX12_step_52 : decode cX12_step 52 = .ok (.iconst 3, 1) := by decide +kernel
theorem dX12_step_53 : decode cX12_step 53 = .ok (.if_icmp .ne 57, 3) := by decide +kernel
theorem dX12_step_56 : decode cX12_step 56 = .ok (.aload_n 0, 1) := by decide +kernel
theorem dX12_step_57 : decode cX12_step 57 = .ok (.getfield 162, 3) := by decide +kernel
theorem dX12_step_60 : decode cX12_step 60 = .ok (.aload_n 0, 1) := by decide +kernel
theorem dX12_step_61 : decode cX12_step 61 = .ok (.getfield 67, 3) := by decide +kernel
theorem dX12_step_64 : decode cX12_step 64 = .ok (.aload_n 0, 1) := by decide +kernel
theorem dX12_step_65 : decode cX12_step 65 = .ok (.getfield 144, 3) := by decide +kernel
theorem dX12_step_68 : decode cX12_step 68 = .ok (.iload_n 1, 1) := by decide +kernel
theorem dX12_step_69 : decode cX12_step 69 = .ok (.iaload, 1) := by decide +kernel
theorem dX12_step_70 : decode cX12_step 70 = .ok (.iaload, 1) := by decide +kernel
theorem dX12_step_71 : decode cX12_step 71 = .ok (.iaload, 1) := by decide +kernel
theorem dX12_step_72 : decode cX12_step 72 = .ok (.iconst (-1), 1) := by decide +kernel
theorem dX12_step_73 : decode cX12_step 73 = .ok (.if_icmp .eq 6, 3) := by decide +kernel
theorem dX12_step_76 : decode cX12_step 76 = .ok (.goto 34, 3) := by decide +kernel
theorem dX12_step_79 : decode cX12_step 79 = .ok (.aload_n 0, 1) := by decide +kernel
theorem dX12_step_80 : decode cX12_step 80 = .ok (.getfield 138, 3) := by decide +kernel
theorem dX12_step_83 : decode cX12_step 83 = .ok (.iload_n 1, 1) := by decide +kernel
theorem dX12_step_84 : decode cX12_step 84 = .ok (.aload_n 0, 1) := by decide +kernel
theorem dX12_step_85 : decode cX12_step 85 = .ok (.getfield 49, 3) := by decide +kernel
theorem dX12_step_88 : decode cX12_step 88 = .ok (.aload_n 0, 1) := by decide +kernel
theorem dX12_step_89 : decode cX12_step 89 = .ok (.getfield 73, 3) := by decide +kernel
theorem dX12_step_92 : decode cX12_step 92 = .ok (.aload_n 0, 1) := by decide +kernel
theorem dX12_step_93 : decode cX12_step 93 = .ok (.getfield 144, 3) := by decide +kernel
theorem dX12_step_96 : decode cX12_step 96 = .ok (.iload_n 1, 1) := by decide +kernel
theorem dX12_step_97 : decode cX12_step 97 = .ok (.iaload, 1) := by decide +kernel
theorem dX12_step_98 : decode cX12_step 98 = .ok (.iaload, 1) := by decide +kernel
theorem dX12_step_99 : decode cX12_step 99 = .ok (.iaload, 1) := by decide +kernel
theorem dX12_step_100 : decode cX12_step 100 = .ok (.iastore, 1) := by decide +kernel
theorem dX12_step_101 : decode cX12_step 101 = .ok (.aload_n 0, 1) := by decide +kernel
theorem dX12_step_102 : decode cX12_step 102 = .ok (.iload_n 1, 1) := by decide +kernel
theorem dX12_step_103 : decode cX12_step 103 = .ok (.aload_n 0, 1) := by decide +kernel
theorem dX12_step_104 : decode cX12_step 104 = .ok (.getfield 443, 3) := by decide +kernel
theorem dX12_step_107 : decode cX12_step 107 = .ok (.invokevirtual 456, 3) := by decide +kernel
theorem dX12_step_110 : decode cX12_step 110 = .ok (.iinc 1 1, 3) := by decide +kernel
theorem dX12_step_113 : decode cX12_step 113 = .ok (.goto (-75), 3) := by decide +kernel
theorem dX12_step_116 : decode cX12_step 116 = .ok (.iconst 0, 1) := by decide +kernel
theorem dX12_step_117 : decode cX12_step 117 = .ok (.istore_n 1, 1) := by decide +kernel
theorem dX12_step_118 : decode cX12_step 118 = .ok (.iload_n 1, 1) := by decide +kernel
theorem dX12_step_119 : decode cX12_step 119 = .ok (.aload_n 0, 1) := by decide +kernel
theorem dX12_step_120 : decode cX12_step 120 = .ok (.getfield 254, 3) := by decide +kernel
theorem dX12_step_123 : decode cX12_step 123 = .ok (.if_icmp .ge 81, 3) := by decide +kernel
theorem dX12_step_126 : decode cX12_step 126 = .ok (.aload_n 0, 1) := by decide +kernel
theorem dX12_step_127 : decode cX12_step 127 = .ok (.getfield 135, 3) := by decide +kernel
theorem dX12_step_130 : decode cX12_step 130 = .ok (.iload_n 1, 1) := by decide +kernel
theorem dX12_step_131 : decode cX12_step 131 = .ok (.iaload, 1) := by decide +kernel
theorem dX12_step_132 : decode cX12_step 132 = .ok (.ifCond .ne 28, 3) := by decide +kernel
theorem dX12_step_135 : decode cX12_step 135 = .ok (.aload_n 0, 1) := by decide +kernel
theorem dX12_step_136 : decode cX12_step 136 = .ok (.getfield 28, 3) := by decide +kernel
theorem dX12_step_139 : decode cX12_step 139 = .ok (.iload_n 1, 1) := by decide +kernel
theorem dX12_step_140 : decode cX12_step 140 = .ok (.iaload, 1) := by decide +kernel
theorem dX12_step_141 : decode cX12_step 141 = .ok (.aload_n 0, 1) := by decide +kernel
theorem dX12_step_142 : decode cX12_step 142 = .ok (.getfield 443, 3) := by decide +kernel
theorem dX12_step_145 : decode cX12_step 145 = .ok (.if_icmp .ne 15, 3) := by decide +kernel
theorem dX12_step_148 : decode cX12_step 148 = .ok (.aload_n 0, 1) := by decide +kernel
theorem dX12_step_149 : decode cX12_step 149 = .ok (.iload_n 1, 1) := by decide +kernel
theorem dX12_step_150 : decode cX12_step 150 = .ok (.aload_n 0, 1) := by decide +kernel
theorem dX12_step_151 : decode cX12_step 151 = .ok (.getfield 443, 3) := by decide +kernel
theorem dX12_step_154 : decode cX12_step 154 = .ok (.invokevirtual 456, 3) := by decide +kernel
theorem dX12_step_157 : decode cX12_step 157 = .ok (.goto 41, 3) := by decide +kernel
theorem dX12_step_160 : decode cX12_step 160 = .ok (.aload_n 0, 1) := by decide +kernel
theorem dX12_step_161 : decode cX12_step 161 = .ok (.getfield 135, 3) := by decide +kernel
theorem dX12_step_164 : decode cX12_step 164 = .ok (.iload_n 1, 1) := by decide +kernel
theorem dX12_step_165 : decode cX12_step 165 = .ok (.iaload, 1) := by decide +kernel
theorem dX12_step_166 : decode cX12_step 166 = .ok (.iconst 1, 1) := by decide +kernel
theorem dX12_step_167 : decode cX12_step 167 = .ok (.if_icmp .eq 13, 3) := by decide +kernel
theorem dX12_step_170 : decode cX12_step 170 = .ok (.aload_n 0, 1) := by decide +kernel
theorem dX12_step_171 : decode cX12_step 171 = .ok (.getfield 135, 3) := by decide +kernel
theorem dX12_step_174 : decode cX12_step 174 = .ok (.iload_n 1, 1) := by decide +kernel
theorem dX12_step_175 : decode cX12_step 175 = .ok (.iaload, 1) := by decide +kernel
theorem dX12_step_176 : decode cX12_step 176 = .ok (.iconst 4, 1) := by decide +kernel
theorem dX12_step_177 : decode cX12_step 177 = .ok (.if_icmp .ne 21, 3) := by decide +kernel
theorem dX12_step_180 : decode cX12_step 180 = .ok (.aload_n 0, 1) := by decide +kernel
theorem dX12_step_181 : decode cX12_step 181 = .ok (.getfield 141, 3) := by decide +kernel
theorem dX12_step_184 : decode cX12_step 184 = .ok (.iload_n 1, 1) := by decide +kernel
theorem dX12_step_185 : decode cX12_step 185 = .ok (.iaload, 1) := by decide +kernel
theorem dX12_step_186 : decode cX12_step 186 = .ok (.aload_n 0, 1) := by decide +kernel
theorem dX12_step_187 : decode cX12_step 187 = .ok (.getfield 443, 3) := by decide +kernel
theorem dX12_step_190 : decode cX12_step 190 = .ok (.if_icmp .ne 8, 3) := by decide +kernel
theorem dX12_step_193 : decode cX12_step 193 = .ok (.aload_n 0, 1) := by decide +kernel
theorem dX12_step_194 : decode cX12_step 194 = .ok (.iload_n 1, 1) := by decide +kernel
theorem dX12_step_195 : decode cX12_step 195 = .ok (.invokevirtual 446, 3) := by decide +kernel
theorem dX12_step_198 : decode cX12_step 198 = .ok (.iinc 1 1, 3) := by decide +kernel
theorem dX12_step_201 : decode cX12_step 201 = .ok (.goto (-83), 3) := by decide +kernel
theorem dX12_step_204 : decode cX12_step 204 = .ok (.iconst 0, 1) := by decide +kernel
theorem dX12_step_205 : decode cX12_step 205 = .ok (.istore_n 1, 1) := by decide +kernel
theorem dX12_step_206 : decode cX12_step 206 = .ok (.iload_n 1, 1) := by decide +kernel
theorem dX12_step_207 : decode cX12_step 207 = .ok (.aload_n 0, 1) := by decide +kernel
theorem dX12_step_208 : decode cX12_step 208 = .ok (.getfield 269, 3) := by decide +kernel
theorem dX12_step_211 : decode cX12_step 211 = .ok (.if_icmp .ge 35, 3) := by decide +kernel
theorem dX12_step_214 : decode cX12_step 214 = .ok (.aload_n 0, 1) := by decide +kernel
theorem dX12_step_215 : decode cX12_step 215 = .ok (.getfield 76, 3) := by decide +kernel
theorem dX12_step_218 : decode cX12_step 218 = .ok (.iload_n 1, 1) := by decide +kernel
theorem dX12_step_219 : decode cX12_step 219 = .ok (.iaload, 1) := by decide +kernel
theorem dX12_step_220 : decode cX12_step 220 = .ok (.aload_n 0, 1) := by decide +kernel
theorem dX12_step_221 : decode cX12_step 221 = .ok (.getfield 443, 3) := by decide +kernel
theorem dX12_step_224 : decode cX12_step 224 = .ok (.if_icmp .ne 16, 3) := by decide +kernel
theorem dX12_step_227 : decode cX12_step 227 = .ok (.aload_n 0, 1) := by decide +kernel
theorem dX12_step_228 : decode cX12_step 228 = .ok (.iload_n 1, 1) := by decide +kernel
theorem dX12_step_229 : decode cX12_step 229 = .ok (.invokevirtual 426, 3) := by decide +kernel
theorem dX12_step_232 : decode cX12_step 232 = .ok (.ifCond .eq 8, 3) := by decide +kernel
theorem dX12_step_235 : decode cX12_step 235 = .ok (.aload_n 0, 1) := by decide +kernel
theorem dX12_step_236 : decode cX12_step 236 = .ok (.iload_n 1, 1) := by decide +kernel
theorem dX12_step_237 : decode cX12_step 237 = .ok (.invokevirtual 459, 3) := by decide +kernel
theorem dX12_step_240 : decode cX12_step 240 = .ok (.iinc 1 1, 3) := by decide +kernel
theorem dX12_step_243 : decode cX12_step 243 = .ok (.goto (-37), 3) := by decide +kernel
theorem dX12_step_246 : decode cX12_step 246 = .ok (.iconst 0, 1) := by decide +kernel
theorem dX12_step_247 : decode cX12_step 247 = .ok (.istore_n 1, 1) := by decide +kernel
theorem dX12_step_248 : decode cX12_step 248 = .ok (.iload_n 1, 1) := by decide +kernel
theorem dX12_step_249 : decode cX12_step 249 = .ok (.aload_n 0, 1) := by decide +kernel
theorem dX12_step_250 : decode cX12_step 250 = .ok (.getfield 254, 3) := by decide +kernel
theorem dX12_step_253 : decode cX12_step 253 = .ok (.if_icmp .ge 51, 3) := by decide +kernel
theorem dX12_step_256 : decode cX12_step 256 = .ok (.aload_n 0, 1) := by decide +kernel
theorem dX12_step_257 : decode cX12_step 257 = .ok (.getfield 135, 3) := by decide +kernel
theorem dX12_step_260 : decode cX12_step 260 = .ok (.iload_n 1, 1) := by decide +kernel
theorem dX12_step_261 : decode cX12_step 261 = .ok (.iaload, 1) := by decide +kernel
theorem dX12_step_262 : decode cX12_step 262 = .ok (.iconst 2, 1) := by decide +kernel
theorem dX12_step_263 : decode cX12_step 263 = .ok (.if_icmp .ne 35, 3) := by decide +kernel
theorem dX12_step_266 : decode cX12_step 266 = .ok (.aload_n 0, 1) := by decide +kernel
theorem dX12_step_267 : decode cX12_step 267 = .ok (.getfield 76, 3) := by decide +kernel
theorem dX12_step_270 : decode cX12_step 270 = .ok (.aload_n 0, 1) := by decide +kernel
theorem dX12_step_271 : decode cX12_step 271 = .ok (.getfield 144, 3) := by decide +kernel
theorem dX12_step_274 : decode cX12_step 274 = .ok (.iload_n 1, 1) := by decide +kernel
theorem dX12_step_275 : decode cX12_step 275 = .ok (.iaload, 1) := by decide +kernel
theorem dX12_step_276 : decode cX12_step 276 = .ok (.iaload, 1) := by decide +kernel
theorem dX12_step_277 : decode cX12_step 277 = .ok (.aload_n 0, 1) := by decide +kernel
theorem dX12_step_278 : decode cX12_step 278 = .ok (.getfield 443, 3) := by decide +kernel
theorem dX12_step_281 : decode cX12_step 281 = .ok (.if_icmp .eq 6, 3) := by decide +kernel
theorem dX12_step_284 : decode cX12_step 284 = .ok (.goto 14, 3) := by decide +kernel
theorem dX12_step_287 : decode cX12_step 287 = .ok (.aload_n 0, 1) := by decide +kernel
theorem dX12_step_288 : decode cX12_step 288 = .ok (.iload_n 1, 1) := by decide +kernel
theorem dX12_step_289 : decode cX12_step 289 = .ok (.aload_n 0, 1) := by decide +kernel
theorem dX12_step_290 : decode cX12_step 290 = .ok (.getfield 443, 3) := by decide +kernel
theorem dX12_step_293 : decode cX12_step 293 = .ok (.iconst 1, 1) := by decide +kernel
theorem dX12_step_294 : decode cX12_step 294 = .ok (.iadd, 1) := by decide +kernel
theorem dX12_step_295 : decode cX12_step 295 = .ok (.invokevirtual 456, 3) := by decide +kernel
theorem dX12_step_298 : decode cX12_step 298 = .ok (.iinc 1 1, 3) := by decide +kernel
theorem dX12_step_301 : decode cX12_step 301 = .ok (.goto (-53), 3) := by decide +kernel
theorem dX12_step_304 : decode cX12_step 304 = .ok (.return_, 1) := by decide +kernel
theorem dX12_tried_0 : decode cX12_tried 0 = .ok (.aload_n 0, 1) := by decide +kernel
theorem dX12_tried_1 : decode cX12_tried 1 = .ok (.iconst 0, 1) := by decide +kernel
theorem dX12_tried_2 : decode cX12_tried 2 = .ok (.putfield 204, 3) := by decide +kernel
theorem dX12_tried_5 : decode cX12_tried 5 = .ok (.aload_n 0, 1) := by decide +kernel
theorem dX12_tried_6 : decode cX12_tried 6 = .ok (.iload_n 1, 1) := by decide +kernel
theorem dX12_tried_7 : decode cX12_tried 7 = .ok (.invokevirtual 266, 3) := by decide +kernel
theorem dX12_tried_10 : decode cX12_tried 10 = .ok (.ifCond .eq 14, 3) := by decide +kernel
theorem dX12_tried_13 : decode cX12_tried 13 = .ok (.aload_n 0, 1) := by decide +kernel
theorem dX12_tried_14 : decode cX12_tried 14 = .ok (.getfield 183, 3) := by decide +kernel
theorem dX12_tried_17 : decode cX12_tried 17 = .ok (.aload_n 0, 1) := by decide +kernel
theorem dX12_tried_18 : decode cX12_tried 18 = .ok (.getfield 218, 3) := by decide +kernel
theorem dX12_tried_21 : decode cX12_tried 21 = .ok (.if_icmp .ne 5, 3) := by decide +kernel
theorem dX12_tried_24 : decode cX12_tried 24 = .ok (.iconst (-1), 1) := by decide +kernel
theorem dX12_tried_25 : decode cX12_tried 25 = .ok (.ireturn, 1) := by decide +kernel
theorem dX12_tried_26 : decode cX12_tried 26 = .ok (.aload_n 0, 1) := by decide +kernel
theorem dX12_tried_27 : decode cX12_tried 27 = .ok (.iconst 0, 1) := by decide +kernel
theorem dX12_tried_28 : decode cX12_tried 28 = .ok (.putfield 474, 3) := by decide +kernel
theorem dX12_tried_31 : decode cX12_tried 31 = .ok (.aload_n 0, 1) := by decide +kernel
theorem dX12_tried_32 : decode cX12_tried 32 = .ok (.getfield 272, 3) := by decide +kernel
theorem dX12_tried_35 : decode cX12_tried 35 = .ok (.istore_n 2, 1) := by decide +kernel
theorem dX12_tried_36 : decode cX12_tried 36 = .ok (.aload_n 0, 1) := by decide +kernel
theorem dX12_tried_37 : decode cX12_tried 37 = .ok (.aload_n 0, 1) := by decide +kernel
theorem dX12_tried_38 : decode cX12_tried 38 = .ok (.getfield 37, 3) := by decide +kernel
theorem dX12_tried_41 : decode cX12_tried 41 = .ok (.aload_n 0, 1) := by decide +kernel
theorem dX12_tried_42 : decode cX12_tried 42 = .ok (.getfield 254, 3) := by decide +kernel
theorem dX12_tried_45 : decode cX12_tried 45 = .ok (.invokevirtual 477, 3) := by decide +kernel
theorem dX12_tried_48 : decode cX12_tried 48 = .ok (.aload_n 0, 1) := by decide +kernel
theorem dX12_tried_49 : decode cX12_tried 49 = .ok (.aload_n 0, 1) := by decide +kernel
theorem dX12_tried_50 : decode cX12_tried 50 = .ok (.getfield 40, 3) := by decide +kernel
theorem dX12_tried_53 : decode cX12_tried 53 = .ok (.aload_n 0, 1) := by decide +kernel
theorem dX12_tried_54 : decode cX12_tried 54 = .ok (.getfield 254, 3) := by decide +kernel
theorem dX12_tried_57 : decode cX12_tried 57 = .ok (.invokevirtual 477, 3) := by decide +kernel
theorem dX12_tried_60 : decode cX12_tried 60 = .ok (.aload_n 0, 1) := by decide +kernel
theorem dX12_tried_61 : decode cX12_tried 61 = .ok (.aload_n 0, 1) := by decide +kernel
theorem dX12_tried_62 : decode cX12_tried 62 = .ok (.getfield 46, 3) := by decide +kernel
theorem dX12_tried_65 : decode cX12_tried 65 = .ok (.aload_n 0, 1) := by decide +kernel
theorem dX12_tried_66 : decode cX12_tried 66 = .ok (.getfield 254, 3) := by decide +kernel
theorem dX12_tried_69 : decode cX12_tried 69 = .ok (.invokevirtual 477, 3) := by decide +kernel
theorem dX12_tried_72 : decode cX12_tried 72 = .ok (.aload_n 0, 1) := by decide +kernel
theorem dX12_tried_73 : decode cX12_tried 73 = .ok (.aload_n 0, 1) := by decide +kernel
theorem dX12_tried_74 : decode cX12_tried 74 = .ok (.getfield 147, 3) := by decide +kernel
theorem dX12_tried_77 : decode cX12_tried 77 = .ok (.aload_n 0, 1) := by decide +kernel
theorem dX12_tried_78 : decode cX12_tried 78 = .ok (.getfield 254, 3) := by decide +kernel
theorem dX12_tried_81 : decode cX12_tried 81 = .ok (.invokevirtual 477, 3) := by decide +kernel
theorem dX12_tried_84 : decode cX12_tried 84 = .ok (.aload_n 0, 1) := by decide +kernel
theorem dX12_tried_85 : decode cX12_tried 85 = .ok (.aload_n 0, 1) := by decide +kernel
theorem dX12_tried_86 : decode cX12_tried 86 = .ok (.getfield 150, 3) := by decide +kernel
theorem dX12_tried_89 : decode cX12_tried 89 = .ok (.aload_n 0, 1) := by decide +kernel
theorem dX12_tried_90 : decode cX12_tried 90 = .ok (.getfield 254, 3) := by decide +kernel
theorem dX12_tried_93 : decode cX12_tried 93 = .ok (.invokevirtual 477, 3) := by decide +kernel
theorem dX12_tried_96 : decode cX12_tried 96 = .ok (.aload_n 0, 1) := by decide +kernel
theorem dX12_tried_97 : decode cX12_tried 97 = .ok (.aload_n 0, 1) := by decide +kernel
theorem dX12_tried_98 : decode cX12_tried 98 = .ok (.getfield 153, 3) := by decide +kernel
theorem dX12_tried_101 : decode cX12_tried 101 = .ok (.aload_n 0, 1) := by decide +kernel
theorem dX12_tried_102 : decode cX12_tried 102 = .ok (.getfield 254, 3) := by decide +kernel
theorem dX12_tried_105 : decode cX12_tried 105 = .ok (.invokevirtual 477, 3) := by decide +kernel
theorem dX12_tried_108 : decode cX12_tried 108 = .ok (.aload_n 0, 1) := by decide +kernel
theorem dX12_tried_109 : decode cX12_tried 109 = .ok (.aload_n 0, 1) := by decide +kernel
theorem dX12_tried_110 : decode cX12_tried 110 = .ok (.getfield 156, 3) := by decide +kernel
theorem dX12_tried_113 : decode cX12_tried 113 = .ok (.aload_n 0, 1) := by decide +kernel
theorem dX12_tried_114 : decode cX12_tried 114 = .ok (.getfield 254, 3) := by decide +kernel
theorem dX12_tried_117 : decode cX12_tried 117 = .ok (.invokevirtual 477, 3) := by decide +kernel
theorem dX12_tried_120 : decode cX12_tried 120 = .ok (.aload_n 0, 1) := by decide +kernel
theorem dX12_tried_121 : decode cX12_tried 121 = .ok (.aload_n 0, 1) := by decide +kernel
theorem dX12_tried_122 : decode cX12_tried 122 = .ok (.getfield 64, 3) := by decide +kernel
theorem dX12_tried_125 : decode cX12_tried 125 = .ok (.aload_n 0, 1) := by decide +kernel
theorem dX12_tried_126 : decode cX12_tried 126 = .ok (.getfield 263, 3) := by decide +kernel
theorem dX12_tried_129 : decode cX12_tried 129 = .ok (.invokevirtual 477, 3) := by decide +kernel
theorem dX12_tried_132 : decode cX12_tried 132 = .ok (.aload_n 0, 1) := by decide +kernel
theorem dX12_tried_133 : decode cX12_tried 133 = .ok (.aload_n 0, 1) := by decide +kernel
theorem dX12_tried_134 : decode cX12_tried 134 = .ok (.getfield 159, 3) := by decide +kernel
theorem dX12_tried_137 : decode cX12_tried 137 = .ok (.aload_n 0, 1) := by decide +kernel
theorem dX12_tried_138 : decode cX12_tried 138 = .ok (.getfield 263, 3) := by decide +kernel
theorem dX12_tried_141 : decode cX12_tried 141 = .ok (.invokevirtual 477, 3) := by decide +kernel
theorem dX12_tried_144 : decode cX12_tried 144 = .ok (.aload_n 0, 1) := by decide +kernel
theorem dX12_tried_145 : decode cX12_tried 145 = .ok (.aload_n 0, 1) := by decide +kernel
theorem dX12_tried_146 : decode cX12_tried 146 = .ok (.getfield 165, 3) := by decide +kernel
theorem dX12_tried_149 : decode cX12_tried 149 = .ok (.aload_n 0, 1) := by decide +kernel
theorem dX12_tried_150 : decode cX12_tried 150 = .ok (.getfield 263, 3) := by decide +kernel
theorem dX12_tried_153 : decode cX12_tried 153 = .ok (.invokevirtual 477, 3) := by decide +kernel
theorem dX12_tried_156 : decode cX12_tried 156 = .ok (.aload_n 0, 1) := by decide +kernel
theorem dX12_tried_157 : decode cX12_tried 157 = .ok (.aload_n 0, 1) := by decide +kernel
theorem dX12_tried_158 : decode cX12_tried 158 = .ok (.getfield 168, 3) := by decide +kernel
theorem dX12_tried_161 : decode cX12_tried 161 = .ok (.aload_n 0, 1) := by decide +kernel
theorem dX12_tried_162 : decode cX12_tried 162 = .ok (.getfield 263, 3) := by decide +kernel
theorem dX12_tried_165 : decode cX12_tried 165 = .ok (.invokevirtual 477, 3) := by decide +kernel
theorem dX12_tried_168 : decode cX12_tried 168 = .ok (.aload_n 0, 1) := by decide +kernel
theorem dX12_tried_169 : decode cX12_tried 169 = .ok (.iload_n 1, 1) := by decide +kernel
theorem dX12_tried_170 : decode cX12_tried 170 = .ok (.invokevirtual 468, 3) := by decide +kernel
theorem dX12_tried_173 : decode cX12_tried 173 = .ok (.aload_n 0, 1) := by decide +kernel
theorem dX12_tried_174 : decode cX12_tried 174 = .ok (.invokevirtual 471, 3) := by decide +kernel
theorem dX12_tried_177 : decode cX12_tried 177 = .ok (.istore_n 3, 1) := by decide +kernel
theorem dX12_tried_178 : decode cX12_tried 178 = .ok (.aload_n 0, 1) := by decide +kernel
theorem dX12_tried_179 : decode cX12_tried 179 = .ok (.iconst 0, 1) := by decide +kernel
theorem dX12_tried_180 : decode cX12_tried 180 = .ok (.putfield 474, 3) := by decide +kernel
theorem dX12_tried_183 : decode cX12_tried 183 = .ok (.aload_n 0, 1) := by decide +kernel
theorem dX12_tried_184 : decode cX12_tried 184 = .ok (.iload_n 2, 1) := by decide +kernel
theorem dX12_tried_185 : decode cX12_tried 185 = .ok (.putfield 272, 3) := by decide +kernel
theorem dX12_tried_188 : decode cX12_tried 188 = .ok (.aload_n 0, 1) := by decide +kernel
theorem dX12_tried_189 : decode cX12_tried 189 = .ok (.aload_n 0, 1) := by decide +kernel
theorem dX12_tried_190 : decode cX12_tried 190 = .ok (.getfield 37, 3) := by decide +kernel
theorem dX12_tried_193 : decode cX12_tried 193 = .ok (.aload_n 0, 1) := by decide +kernel
theorem dX12_tried_194 : decode cX12_tried 194 = .ok (.getfield 254, 3) := by decide +kernel
theorem dX12_tried_197 : decode cX12_tried 197 = .ok (.invokevirtual 481, 3) := by decide +kernel
theorem dX12_tried_200 : decode cX12_tried 200 = .ok (.aload_n 0, 1) := by decide +kernel
theorem dX12_tried_201 : decode cX12_tried 201 = .ok (.aload_n 0, 1) := by decide +kernel
theorem dX12_tried_202 : decode cX12_tried 202 = .ok (.getfield 40, 3) := by decide +kernel
theorem dX12_tried_205 : decode cX12_tried 205 = .ok (.aload_n 0, 1) := by decide +kernel
theorem dX12_tried_206 : decode cX12_tried 206 = .ok (.getfield 254, 3) := by decide +kernel
theorem dX12_tried_209 : decode cX12_tried 209 = .ok (.invokevirtual 481, 3) := by decide +kernel
theorem dX12_tried_212 : decode cX12_tried 212 = .ok (.aload_n 0, 1) := by decide +kernel
theorem dX12_tried_213 : decode cX12_tried 213 = .ok (.aload_n 0, 1) := by decide +kernel
theorem dX12_tried_214 : decode cX12_tried 214 = .ok (.getfield 46, 3) := by decide +kernel
theorem dX12_tried_217 : decode cX12_tried 217 = .ok (.aload_n 0, 1) := by decide +kernel
theorem dX12_tried_218 : decode cX12_tried 218 = .ok (.getfield 254, 3) := by decide +kernel
theorem dX12_tried_221 : decode cX12_tried 221 = .ok (.invokevirtual 481, 3) := by decide +kernel
theorem dX12_tried_224 : decode cX12_tried 224 = .ok (.aload_n 0, 1) := by decide +kernel
theorem dX12_tried_225 : decode cX12_tried 225 = .ok (.aload_n 0, 1) := by decide +kernel
theorem dX12_tried_226 : decode cX12_tried 226 = .ok (.getfield 147, 3) := by decide +kernel
theorem dX12_tried_229 : decode cX12_tried 229 = .ok (.aload_n 0, 1) := by decide +kernel
theorem dX12_tried_230 : decode cX12_tried 230 = .ok (.getfield 254, 3) := by decide +kernel
theorem dX12_tried_233 : decode cX12_tried 233 = .ok (.invokevirtual 481, 3) := by decide +kernel
theorem dX12_tried_236 : decode cX12_tried 236 = .ok (.aload_n 0, 1) := by decide +kernel
theorem dX12_tried_237 : decode cX12_tried 237 = .ok (.aload_n 0, 1) := by decide +kernel
theorem dX12_tried_238 : decode cX12_tried 238 = .ok (.getfield 150, 3) := by decide +kernel
theorem dX12_tried_241 : decode cX12_tried 241 = .ok (.aload_n 0, 1) := by decide +kernel
theorem dX12_tried_242 : decode cX12_tried 242 = .ok (.getfield 254, 3) := by decide +kernel
theorem dX12_tried_245 : decode cX12_tried 245 = .ok (.invokevirtual 481, 3) := by decide +kernel
theorem dX12_tried_248 : decode cX12_tried 248 = .ok (.aload_n 0, 1) := by decide +kernel
theorem dX12_tried_249 : decode cX12_tried 249 = .ok (.aload_n 0, 1) := by decide +kernel
theorem dX12_tried_250 : decode cX12_tried 250 = .ok (.getfield 153, 3) := by decide +kernel
theorem dX12_tried_253 : decode cX12_tried 253 = .ok (.aload_n 0, 1) := by decide +kernel
theorem dX12_tried_254 : decode cX12_tried 254 = .ok (.getfield 254, 3) := by decide +kernel
theorem dX12_tried_257 : decode cX12_tried 257 = .ok (.invokevirtual 481, 3) := by decide +kernel
theorem dX12_tried_260 : decode cX12_tried 260 = .ok (.aload_n 0, 1) := by decide +kernel
theorem dX12_tried_261 : decode cX12_tried 261 = .ok (.aload_n 0, 1) := by decide +kernel
theorem dX12_tried_262 : decode cX12_tried 262 = .ok (.getfield 156, 3) := by decide +kernel
theorem dX12_tried_265 : decode cX12_tried 265 = .ok (.aload_n 0, 1) := by decide +kernel
theorem dX12_tried_266 : decode cX12_tried 266 = .ok (.getfield 254, 3) := by decide +kernel
theorem dX12_tried_269 : decode cX12_tried 269 = .ok (.invokevirtual 481, 3) := by decide +kernel
theorem dX12_tried_272 : decode cX12_tried 272 = .ok (.aload_n 0, 1) := by decide +kernel
theorem dX12_tried_273 : decode cX12_tried 273 = .ok (.aload_n 0, 1) := by decide +kernel
theorem dX12_tried_274 : decode cX12_tried 274 = .ok (.getfield 64, 3) := by decide +kernel
theorem dX12_tried_277 : decode cX12_tried 277 = .ok (.aload_n 0, 1) := by decide +kernel
theorem dX12_tried_278 : decode cX12_tried 278 = .ok (.getfield 263, 3) := by decide +kernel
theorem dX12_tried_281 : decode cX12_tried 281 = .ok (.invokevirtual 481, 3) := by decide +kernel
theorem dX12_tried_284 : decode cX12_tried 284 = .ok (.aload_n 0, 1) := by decide +kernel
theorem dX12_tried_285 : decode cX12_tried 285 = .ok (.aload_n 0, 1) := by decide +kernel
theorem dX12_tried_286 : decode cX12_tried 286 = .ok (.getfield 159, 3) := by decide +kernel
theorem dX12_tried_289 : decode cX12_tried 289 = .ok (.aload_n 0, 1) := by decide +kernel
theorem dX12_tried_290 : decode cX12_tried 290 = .ok (.getfield 263, 3) := by decide +kernel
theorem dX12_tried_293 : decode cX12_tried 293 = .ok (.invokevirtual 481, 3) := by decide +kernel
theorem dX12_tried_296 : decode cX12_tried 296 = .ok (.aload_n 0, 1) := by decide +kernel
theorem dX12_tried_297 : decode cX12_tried 297 = .ok (.aload_n 0, 1) := by decide +kernel
theorem dX12_tried_298 : decode cX12_tried 298 = .ok (.getfield 165, 3) := by decide +kernel
theorem dX12_tried_301 : decode cX12_tried 301 = .ok (.aload_n 0, 1) := by decide +kernel
theorem dX12_tried_302 : decode cX12_tried 302 = .ok (.getfield 263, 3) := by decide +kernel
theorem dX12_tried_305 : decode cX12_tried 305 = .ok (.invokevirtual 481, 3) := by decide +kernel
theorem dX12_tried_308 : decode cX12_tried 308 = .ok (.aload_n 0, 1) := by decide +kernel
theorem dX12_tried_309 : decode cX12_tried 309 = .ok (.aload_n 0, 1) := by decide +kernel
theorem dX12_tried_310 : decode cX12_tried 310 = .ok (.getfield 168, 3) := by decide +kernel
theorem dX12_tried_313 : decode cX12_tried 313 = .ok (.aload_n 0, 1) := by decide +kernel
theorem dX12_tried_314 : decode cX12_tried 314 = .ok (.getfield 263, 3) := by decide +kernel
theorem dX12_tried_317 : decode cX12_tried 317 = .ok (.invokevirtual 481, 3) := by decide +kernel
theorem dX12_tried_320 : decode cX12_tried 320 = .ok (.iload_n 3, 1) := by decide +kernel
theorem dX12_tried_321 : decode cX12_tried 321 = .ok (.ireturn, 1) := by decide +kernel
set_option maxHeartbeats 4000000 in
set_option maxRecDepth 100000 in
theorem m_leave (l : Launch) (dC : Nat → ClassId) (dI : Nat → Nat → Nat) (sz h : Nat) (ad : Nat → Nat) (cA : Nat → ClassId) (hd : dM h ad) (fv : Nat → Int32) (wd : Int64) (ar : Nat → Nat → Int32) (hF_fv : rF fv) (hA_ar : rA ar) (kk : Int32) (h_kk : 0 ≤ kk.toInt ∧ kk.toInt ≤ 79) (hp_sW : sW ar) (hp_vM : vM fv ar) : Met l yX12_leave (.code yX12_leave cX12_leave 10 none :: lw_good) ({ frames := 6, cells := 0, slots := 0, locals := 128 }) (va_Pc [.ref h, .int kk] (prM dC dI h ad cA fv wd ar sz)) (va_Qv (fun (u : mS) => rF u.1 ∧ rA u.2.2 ∧ fM [8, 36, 66] fv u.1 ∧ fA [4, 16, 24, 64, 65, 68, 75, 76, 77, 78, 79, 80] ar u.2.2 ∧ (sW u.2.2) ∧ True) (enM dC dI h ad cA) (aM h ad sz)) 0 0 (aM h ad sz) := by
  refine Met.ofW (cc := cX12_leave) (maxL := 10) (ret := none) (by decide) rfl ?_
  intro p e s m args below meth c s₁ B hml hv
  obtain ⟨rfl, hsz, hP, hK⟩ := hv
  have hx := B.exec
  have hb := B.bytes
  have hr := B.returns
  have hts := atoms_spec (ws := (.code yX12_leave cX12_leave 10 none :: lw_good)) B.pre
  have htg : ∀ w ∈ lw_good, w.before _ s = true := fun w hw => hts w (List.mem_cons_of_mem _ hw)
  have hown : s.vm.findClass RX12 = some m.cls := findClass_of_methodNamed B.named
  have hlocks := B.notSynchronized
  subst hsz
  have hS : va_S (aM h ad s.heap.size) s.heap s.heap [] := va_S.rf
  have hl := lv_entry ([.ref h, .int kk]) (n := 10) (Nat.le_of_ble_eq_true rfl)
  rw [lg_entry_eq]
  generalize (lg_sl ([.ref h, .int kk]) ++ List.replicate (10 - (lg_sl ([.ref h, .int kk])).length) Slot.unset).toArray = ls at hl ⊢
  have hl : lv_has ls 10 [(0, .ref h), (1, .int kk)] := hl
  refine lv_aload_n hx hb dX12_leave_0 rfl (lv_at hl 0 rfl) ?_
  refine gM_25 hx hb htg hown hK hP dX12_leave_1 ?_
  refine lv_iload_n hx hb dX12_leave_4 rfl (lv_at hl 1 rfl) ?_
  refine lM_25 hx hb hK hP (iv_in h_kk (by decide) (by decide)) dX12_leave_5 (fun v_1 ev_1 => ?_)
  have i_2 : 0 ≤ v_1.toInt ∧ v_1.toInt ≤ 19 := ev_1 ▸ hA_ar 25 _
  refine lv_istore_n (lv' := [(2, .int v_1), (0, .ref h), (1, .int kk)]) hx hb dX12_leave_6 rfl hl (by decide) rfl (fun ls hl => ?_)
  refine lv_aload_n hx hb dX12_leave_7 rfl (lv_at hl 1 rfl) ?_
  refine gM_80 hx hb htg hown hK hP dX12_leave_8 ?_
  refine lv_iload_n hx hb dX12_leave_11 rfl (lv_at hl 2 rfl) ?_
  refine lv_bipush (v := (-2)) hx hb dX12_leave_12 (by decide) ?_
  refine sM_80 hx hb hK hP hS hd (iv_in h_kk (by decide) (by decide)) dX12_leave_14 (fun H locs ar_3 ear_3 hP hS => ?_)
  have hA_ar_3 : rA ar_3 := rA_put hA_ar ear_3 (iv_any _)
  refine lv_aload_n hx hb dX12_leave_15 rfl (lv_at hl 1 rfl) ?_
  refine gM_79 hx hb htg hown hK hP dX12_leave_16 ?_
  refine lv_iload_n hx hb dX12_leave_19 rfl (lv_at hl 0 rfl) ?_
  refine lM_79 hx hb hK hP (iv_in i_2 (by decide) (by decide)) dX12_leave_20 (fun v_4 ev_4 => ?_)
  refine lv_iconst (v := 1) hx hb dX12_leave_21 (by decide) ?_
  refine lv_icmp_eq (tgt := 76) hx hb dX12_leave_22 (by decide) (fun c_5 => ?_) (fun c_5 => ?_)
  · skip
    have i_6 : 1 ≤ v_4.toInt ∧ v_4.toInt ≤ 1 := iv_eq1 (⟨by decide, by decide⟩ : (1 : Int) ≤ (1 : Int32).toInt ∧ (1 : Int32).toInt ≤ 1) c_5
    exact W.vret hx hb hr (fun t ht hW => ⟨⟨(fv, wd, ar_3), rfl, ⟨hF_fv, hA_ar_3, (fM_rf [8, 36, 66] _), (fA_put (fA_rf [4, 16, 24, 64, 65, 68, 75, 76, 77, 78, 79, 80] _) ear_3 (by decide)), (sW_fr hp_sW (fA_put (fA_rf [80] _) ear_3 (by decide)) rfl rfl), trivial⟩, ⟨by rw [ht]; exact hP, va_K.moved hW.alike hK⟩⟩, hS.F ht⟩) hS.2.2 dX12_leave_76
  · skip
    refine lv_aload_n hx hb dX12_leave_25 rfl (lv_at hl 1 rfl) ?_
    refine gM_77 hx hb htg hown hK hP dX12_leave_26 ?_
    refine lv_iload_n hx hb dX12_leave_29 rfl (lv_at hl 0 rfl) ?_
    refine lM_77 hx hb hK hP (iv_in i_2 (by decide) (by decide)) dX12_leave_30 (fun v_7 ev_7 => ?_)
    refine lv_iconst (v := (-1)) hx hb dX12_leave_31 (by decide) ?_
    refine lv_icmp_ne (tgt := 76) hx hb dX12_leave_32 (by decide) (fun c_8 => ?_) (fun c_8 => ?_)
    · skip
      exact W.vret hx hb hr (fun t ht hW => ⟨⟨(fv, wd, ar_3), rfl, ⟨hF_fv, hA_ar_3, (fM_rf [8, 36, 66] _), (fA_put (fA_rf [4, 16, 24, 64, 65, 68, 75, 76, 77, 78, 79, 80] _) ear_3 (by decide)), (sW_fr hp_sW (fA_put (fA_rf [80] _) ear_3 (by decide)) rfl rfl), trivial⟩, ⟨by rw [ht]; exact hP, va_K.moved hW.alike hK⟩⟩, hS.F ht⟩) hS.2.2 dX12_leave_76
    · skip
      have i_9 : (-1) ≤ v_7.toInt ∧ v_7.toInt ≤ (-1) := iv_eq1 (⟨by decide, by decide⟩ : (-1 : Int) ≤ ((-1) : Int32).toInt ∧ ((-1) : Int32).toInt ≤ -1) c_8
      refine lv_aload_n hx hb dX12_leave_35 rfl (lv_at hl 1 rfl) ?_
      refine gM_76 hx hb htg hown hK hP dX12_leave_36 ?_
      refine lv_iload_n hx hb dX12_leave_39 rfl (lv_at hl 0 rfl) ?_
      refine lM_76 hx hb hK hP (iv_in i_2 (by decide) (by decide)) dX12_leave_40 (fun v_10 ev_10 => ?_)
      refine lv_aload_n hx hb dX12_leave_41 rfl (lv_at hl 1 rfl) ?_
      refine gM_26 hx hb htg hown hK hP dX12_leave_42 ?_
      refine lv_iload_n hx hb dX12_leave_45 rfl (lv_at hl 2 rfl) ?_
      refine lM_26 hx hb hK hP (iv_in h_kk (by decide) (by decide)) dX12_leave_46 (fun v_11 ev_11 => ?_)
      have i_12 : 0 ≤ v_11.toInt ∧ v_11.toInt ≤ 7 := ev_11 ▸ hA_ar_3 26 _
      refine lv_icmp_ne (tgt := 76) hx hb dX12_leave_47 (by decide) (fun c_13 => ?_) (fun c_13 => ?_)
      · skip
        exact W.vret hx hb hr (fun t ht hW => ⟨⟨(fv, wd, ar_3), rfl, ⟨hF_fv, hA_ar_3, (fM_rf [8, 36, 66] _), (fA_put (fA_rf [4, 16, 24, 64, 65, 68, 75, 76, 77, 78, 79, 80] _) ear_3 (by decide)), (sW_fr hp_sW (fA_put (fA_rf [80] _) ear_3 (by decide)) rfl rfl), trivial⟩, ⟨by rw [ht]; exact hP, va_K.moved hW.alike hK⟩⟩, hS.F ht⟩) hS.2.2 dX12_leave_76
      · skip
        have i_14 : 0 ≤ v_10.toInt ∧ v_10.toInt ≤ 7 := iv_eq1 i_12 c_13
        refine lv_aload_n hx hb dX12_leave_50 rfl (lv_at hl 1 rfl) ?_
        refine lv_iload_n hx hb dX12_leave_51 rfl (lv_at hl 2 rfl) ?_
        refine va_calli (va_runV (As := [.int kk]) (rest := []) ⟨hx, hb, hml, hown, hts⟩ (m_tripFar l dC dI H.size h ad cA hd fv wd ar_3 hF_fv hA_ar_3 kk h_kk) (cwV 1 hts (gV kw_8_200 kw_8_202 kw_p_90 kw_1_15 kw_8_203) rfl rfl rfl (by decide +kernel) ⟨Nat.le_of_ble_eq_true rfl, Nat.le_of_ble_eq_true rfl⟩) ⟨fun a U g mk q => ⟨q.1, q.2.1, q.2.2.1, va_K.moved (u := U) (U := U.calling g mk a) (Vm.Alike.refl U.vm) q.2.2.2⟩, va_recv hK hP (ci := 12) (q0 := 0) rfl rfl, fun U hU hW => ⟨rfl, by rw [hU], by rw [hU]; exact hP, va_K.moved hW.alike hK⟩⟩ rfl rfl hl.1 rfl (lv_room (Nat.le_of_ble_eq_true rfl)) dX12_leave_52 ⟨Nat.le_of_ble_eq_true rfl, Nat.le_of_ble_eq_true rfl⟩) hS (fun q _ h9 => aM_up hS q h9) (aM_up hS) (fun r_15 u t H1 locs ht _ hw hB _ hk1 hS => ?_)
        obtain ⟨fv_16, wd_17, ar_18⟩ := u
        obtain ⟨hF_fv_16, hA_ar_18, fr_19, fa_20, -⟩ := hw
        have hP : va_P (dC, dI) vwCl (wsM h ad cA fv_16 wd_17 ar_18) H1 := by have h9 := hB.1; rw [ht] at h9; exact h9
        have fr_19 : fM [8] fv fv_16 := fr_19
        have fa_20 : fA [4] ar_3 ar_18 := fa_20
        generalize H1 = H at hP hS ⊢
        refine lv_ldc hx hb hown (htg (.constant RX12 225 100000) kw_7_232) dX12_leave_55 ?_
        refine lv_icmp_ge (tgt := 76) hx hb dX12_leave_57 (by decide) (fun c_21 => ?_) (fun c_21 => ?_)
        · skip
          have i_22 : 100000 ≤ r_15.toInt ∧ r_15.toInt ≤ 2147483647 := iv_le2 (⟨by decide, by decide⟩ : (100000 : Int) ≤ (100000 : Int32).toInt ∧ (100000 : Int32).toInt ≤ 100000) (iv_any r_15) c_21
          exact W.vret hx hb hr (fun t ht hW => ⟨⟨(fv_16, wd_17, ar_18), rfl, ⟨hF_fv_16, hA_ar_18, (fM_call (fM_rf [8, 36, 66] _) fr_19 (by decide)), (fA_call (fA_put (fA_rf [4, 16, 24, 64, 65, 68, 75, 76, 77, 78, 79, 80] _) ear_3 (by decide)) fa_20 (by decide)), (sW_fr hp_sW (fA_call (fA_put (fA_rf [4, 80] _) ear_3 (by decide)) fa_20 (by decide)) rfl rfl), trivial⟩, ⟨by rw [ht]; exact hP, va_K.moved hW.alike hK⟩⟩, hS.F ht⟩) hS.2.2 dX12_leave_76
        · skip
          have i_23 : (-2147483648) ≤ r_15.toInt ∧ r_15.toInt ≤ 99999 := iv_lt1 (iv_any r_15) (⟨by decide, by decide⟩ : (100000 : Int) ≤ (100000 : Int32).toInt ∧ (100000 : Int32).toInt ≤ 100000) (Int32.not_le.mp c_21)
          refine lv_aload_n hx hb dX12_leave_60 rfl (lv_at hl 1 rfl) ?_
          refine lv_iload_n hx hb dX12_leave_61 rfl (lv_at hl 2 rfl) ?_
          refine lv_iconst (v := 0) hx hb dX12_leave_62 (by decide) ?_
          refine lv_iconst (v := 0) hx hb dX12_leave_63 (by decide) ?_
          refine lv_aload_n hx hb dX12_leave_64 rfl (lv_at hl 1 rfl) ?_
          refine gM_78 hx hb htg hown hK hP dX12_leave_65 ?_
          refine lv_iload_n hx hb dX12_leave_68 rfl (lv_at hl 0 rfl) ?_
          refine lM_78 hx hb hK hP (iv_in i_2 (by decide) (by decide)) dX12_leave_69 (fun v_24 ev_24 => ?_)
          refine va_calli (va_runV (As := [.int kk, .int 0, .int 0, .int v_24]) (rest := []) ⟨hx, hb, hml, hown, hts⟩ (m_tells l dC dI H.size h ad cA hd fv_16 wd_17 ar_18 hF_fv_16 hA_ar_18 kk 0 0 v_24 h_kk (vM_fr hp_vM (fM_call (fM_rf [8] _) fr_19 (by decide)) (fA_call (fA_put (fA_rf [4, 80] _) ear_3 (by decide)) fa_20 (by decide)) rfl rfl rfl rfl rfl)) (cwV 4 hts (gV kw_8_145 kw_8_147 kw_p_79 kw_1_15 kw_8_148) rfl rfl rfl (by decide +kernel) ⟨Nat.le_of_ble_eq_true rfl, Nat.le_of_ble_eq_true rfl⟩) ⟨fun a U g mk q => ⟨q.1, q.2.1, q.2.2.1, va_K.moved (u := U) (U := U.calling g mk a) (Vm.Alike.refl U.vm) q.2.2.2⟩, va_recv hK hP (ci := 12) (q0 := 0) rfl rfl, fun U hU hW => ⟨rfl, by rw [hU], by rw [hU]; exact hP, va_K.moved hW.alike hK⟩⟩ rfl rfl hl.1 rfl (lv_room (Nat.le_of_ble_eq_true rfl)) dX12_leave_70 ⟨Nat.le_of_ble_eq_true rfl, Nat.le_of_ble_eq_true rfl⟩) hS (fun q _ h9 => aM_up hS q h9) (aM_up hS) (fun r_25 u t H1 locs ht _ hw hB _ hk1 hS => ?_)
          obtain ⟨fv_26, wd_27, ar_28⟩ := u
          obtain ⟨hF_fv_26, hA_ar_28, fr_29, fa_30, -⟩ := hw
          have hP : va_P (dC, dI) vwCl (wsM h ad cA fv_26 wd_27 ar_28) H1 := by have h9 := hB.1; rw [ht] at h9; exact h9
          have fr_29 : fM [66] fv_16 fv_26 := fr_29
          have fa_30 : fA [64, 65] ar_18 ar_28 := fa_30
          generalize H1 = H at hP hS ⊢
          refine lv_if_ne (tgt := 77) hx hb dX12_leave_73 (by decide) (fun c_31 => ?_) (fun c_31 => ?_)
          · skip
            refine lv_aload_n hx hb dX12_leave_77 rfl (lv_at hl 1 rfl) ?_
            refine lv_iload_n hx hb dX12_leave_78 rfl (lv_at hl 2 rfl) ?_
            refine lv_iconst (v := 5) hx hb dX12_leave_79 (by decide) ?_
            refine lv_iconst (v := 0) hx hb dX12_leave_80 (by decide) ?_
            refine lv_aload_n hx hb dX12_leave_81 rfl (lv_at hl 1 rfl) ?_
            refine gM_78 hx hb htg hown hK hP dX12_leave_82 ?_
            refine lv_iload_n hx hb dX12_leave_85 rfl (lv_at hl 0 rfl) ?_
            refine lM_78 hx hb hK hP (iv_in i_2 (by decide) (by decide)) dX12_leave_86 (fun v_32 ev_32 => ?_)
            obtain rfl : v_24 = v_32 := ev_24.trans ((congrFun ((fA_call (fA_rf [64, 65] _) fa_30 (by decide)) 78 rfl) _).symm.trans ev_32.symm)
            refine va_calli (va_runV (As := [.int kk, .int 5, .int 0, .int v_24]) (rest := []) ⟨hx, hb, hml, hown, hts⟩ (m_tells l dC dI H.size h ad cA hd fv_26 wd_27 ar_28 hF_fv_26 hA_ar_28 kk 5 0 v_24 h_kk (vM_fr hp_vM (fM_call (fM_call (fM_rf [8, 66] _) fr_19 (by decide)) fr_29 (by decide)) (fA_call (fA_call (fA_put (fA_rf [4, 64, 65, 80] _) ear_3 (by decide)) fa_20 (by decide)) fa_30 (by decide)) rfl rfl rfl rfl rfl)) (cwV 4 hts (gV kw_8_145 kw_8_147 kw_p_79 kw_1_15 kw_8_148) rfl rfl rfl (by decide +kernel) ⟨Nat.le_of_ble_eq_true rfl, Nat.le_of_ble_eq_true rfl⟩) ⟨fun a U g mk q => ⟨q.1, q.2.1, q.2.2.1, va_K.moved (u := U) (U := U.calling g mk a) (Vm.Alike.refl U.vm) q.2.2.2⟩, va_recv hK hP (ci := 12) (q0 := 0) rfl rfl, fun U hU hW => ⟨rfl, by rw [hU], by rw [hU]; exact hP, va_K.moved hW.alike hK⟩⟩ rfl rfl hl.1 rfl (lv_room (Nat.le_of_ble_eq_true rfl)) dX12_leave_87 ⟨Nat.le_of_ble_eq_true rfl, Nat.le_of_ble_eq_true rfl⟩) hS (fun q _ h9 => aM_up hS q h9) (aM_up hS) (fun r_33 u t H1 locs ht _ hw hB _ hk1 hS => ?_)
            obtain ⟨fv_34, wd_35, ar_36⟩ := u
            obtain ⟨hF_fv_34, hA_ar_36, fr_37, fa_38, -⟩ := hw
            have hP : va_P (dC, dI) vwCl (wsM h ad cA fv_34 wd_35 ar_36) H1 := by have h9 := hB.1; rw [ht] at h9; exact h9
            have fr_37 : fM [66] fv_26 fv_34 := fr_37
            have fa_38 : fA [64, 65] ar_28 ar_36 := fa_38
            generalize H1 = H at hP hS ⊢
            refine lv_istore_n (lv' := [(3, .int r_33), (2, .int v_1), (0, .ref h), (1, .int kk)]) hx hb dX12_leave_90 rfl hl (by decide) rfl (fun ls hl => ?_)
            refine lv_iload_n hx hb dX12_leave_91 rfl (lv_at hl 0 rfl) ?_
            refine lv_aload_n hx hb dX12_leave_92 rfl (lv_at hl 2 rfl) ?_
            refine gM_36 hx hb htg hown hK hP dX12_leave_93 ?_
            refine my_ti (y := fv 36) ((fr_37 36 rfl).trans ((fr_29 36 rfl).trans ((fr_19 36 rfl)))) ?_
            refine lv_icmp_le (tgt := 100) hx hb dX12_leave_96 (by decide) (fun c_39 => ?_) (fun c_39 => ?_)
            · skip
              refine lv_aload_n hx hb dX12_leave_100 rfl (lv_at hl 2 rfl) ?_
              refine lv_dup hx hb dX12_leave_101 rfl ?_
              refine gM_36 hx hb htg hown hK hP dX12_leave_102 ?_
              refine my_ti (y := fv 36) ((fr_37 36 rfl).trans ((fr_29 36 rfl).trans ((fr_19 36 rfl)))) ?_
              refine lv_iload_n hx hb dX12_leave_105 rfl (lv_at hl 0 rfl) ?_
              refine lv_isub hx hb dX12_leave_106 ?_
              refine lv_topi (fun v_40 ev_40 => ?_)
              refine pM_36 hx hb htg hown hK hP hS hd dX12_leave_107 (fun H locs fv_41 efv_41 hP hS => ?_)
              have hF_fv_41 : rF fv_41 := rF_put hF_fv_34 efv_41 (iv_any v_40)
              refine lv_aload_n hx hb dX12_leave_110 rfl (lv_at hl 2 rfl) ?_
              refine lv_iload_n hx hb dX12_leave_111 rfl (lv_at hl 3 rfl) ?_
              refine lv_iconst (v := 2) hx hb dX12_leave_112 (by decide) ?_
              refine lv_iconst (v := 0) hx hb dX12_leave_113 (by decide) ?_
              refine lv_aload_n hx hb dX12_leave_114 rfl (lv_at hl 2 rfl) ?_
              refine gM_78 hx hb htg hown hK hP dX12_leave_115 ?_
              refine lv_iload_n hx hb dX12_leave_118 rfl (lv_at hl 1 rfl) ?_
              refine lM_78 hx hb hK hP (iv_in i_2 (by decide) (by decide)) dX12_leave_119 (fun v_42 ev_42 => ?_)
              obtain rfl : v_24 = v_42 := ev_24.trans ((congrFun ((fA_call (fA_call (fA_rf [64, 65] _) fa_30 (by decide)) fa_38 (by decide)) 78 rfl) _).symm.trans ev_42.symm)
              refine va_calli (va_runV (As := [.int kk, .int 2, .int 0, .int v_24]) (rest := []) ⟨hx, hb, hml, hown, hts⟩ (m_tells l dC dI H.size h ad cA hd fv_41 wd_35 ar_36 hF_fv_41 hA_ar_36 kk 2 0 v_24 h_kk (vM_fr hp_vM (fM_put (fM_call (fM_call (fM_call (fM_rf [8, 36, 66] _) fr_19 (by decide)) fr_29 (by decide)) fr_37 (by decide)) efv_41 (by decide)) (fA_call (fA_call (fA_call (fA_put (fA_rf [4, 64, 65, 80] _) ear_3 (by decide)) fa_20 (by decide)) fa_30 (by decide)) fa_38 (by decide)) rfl rfl rfl rfl rfl)) (cwV 4 hts (gV kw_8_145 kw_8_147 kw_p_79 kw_1_15 kw_8_148) rfl rfl rfl (by decide +kernel) ⟨Nat.le_of_ble_eq_true rfl, Nat.le_of_ble_eq_true rfl⟩) ⟨fun a U g mk q => ⟨q.1, q.2.1, q.2.2.1, va_K.moved (u := U) (U := U.calling g mk a) (Vm.Alike.refl U.vm) q.2.2.2⟩, va_recv hK hP (ci := 12) (q0 := 0) rfl rfl, fun U hU hW => ⟨rfl, by rw [hU], by rw [hU]; exact hP, va_K.moved hW.alike hK⟩⟩ rfl rfl hl.1 rfl (lv_room (Nat.le_of_ble_eq_true rfl)) dX12_leave_120 ⟨Nat.le_of_ble_eq_true rfl, Nat.le_of_ble_eq_true rfl⟩) hS (fun q _ h9 => aM_up hS q h9) (aM_up hS) (fun r_43 u t H1 locs ht _ hw hB _ hk1 hS => ?_)
              obtain ⟨fv_44, wd_45, ar_46⟩ := u
              obtain ⟨hF_fv_44, hA_ar_46, fr_47, fa_48, -⟩ := hw
              have hP : va_P (dC, dI) vwCl (wsM h ad cA fv_44 wd_45 ar_46) H1 := by have h9 := hB.1; rw [ht] at h9; exact h9
              have fr_47 : fM [66] fv_41 fv_44 := fr_47
              have fa_48 : fA [64, 65] ar_36 ar_46 := fa_48
              generalize H1 = H at hP hS ⊢
              refine lv_istore (lv' := [(4, .int r_43), (3, .int r_33), (2, .int v_1), (0, .ref h), (1, .int kk)]) hx hb dX12_leave_123 hl (by decide) rfl (fun ls hl => ?_)
              refine lv_iconst (v := 0) hx hb dX12_leave_125 (by decide) ?_
              refine lv_istore (lv' := [(5, .int 0), (4, .int r_43), (3, .int r_33), (2, .int v_1), (0, .ref h), (1, .int kk)]) hx hb dX12_leave_126 hl (by decide) rfl (fun ls hl => ?_)
              refine lv_iconst (v := 0) hx hb dX12_leave_128 (by decide) ?_
              refine lv_istore (lv' := [(6, .int 0), (5, .int 0), (4, .int r_43), (3, .int r_33), (2, .int v_1), (0, .ref h), (1, .int kk)]) hx hb dX12_leave_129 hl (by decide) rfl (fun ls hl => ?_)
              refine my_cut (P := fun R9 a9 Q9 => ∀ (n_57 : Nat) (x_49 : Int32) (x_50 : Int32) (fv_51 : Nat → Int32) (ar_53 : Nat → Nat → Int32) (H : Heap) (locs : List Loc) (ls : Array Slot), 720 - x_50.toInt < (n_57 : Int) → (0 ≤ x_49.toInt ∧ x_49.toInt ≤ 2147483647) → (0 ≤ x_50.toInt ∧ x_50.toInt ≤ 720) → rF fv_51 → fM [36] fv_44 fv_51 → rA ar_53 → fA [16, 24, 68] ar_46 ar_53 → sW ar_53 → vM fv_51 ar_53 → va_P (dC, dI) vwCl (wsM h ad cA fv_51 wd_45 ar_53) H → va_S (aM h ad s.heap.size) s.heap H locs → lv_has ls 10 [(0, .ref h), (1, .int kk), (2, .int v_1), (4, .int r_43), (5, .int x_49), (6, .int x_50)] → W p l e R9 s m a9 below meth c H locs 0 0 Q9 (F0 m 131 ls [])) ?_ (fun hj_59 => ?_)
              · intro n_57
                induction n_57 with
                | zero => intro x_49 x_50 fv_51 ar_53 H locs ls fu_58 i_x_49 i_x_50 hF_fv_51 fr_52 hA_ar_53 fa_54 hp_55 hp_56; exfalso; omega
                | succ n_57 ih_57 =>
                  intro x_49 x_50 fv_51 ar_53 H locs ls fu_58 i_x_49 i_x_50 hF_fv_51 fr_52 hA_ar_53 fa_54 hp_55 hp_56 hP hS hl
                  refine lv_iload hx hb dX12_leave_131 (lv_at hl 5 rfl) ?_
                  refine lv_sipush (v := 719) hx hb dX12_leave_133 (by decide) ?_
                  refine my_cut (P := fun R9 a9 Q9 => ∀  (H : Heap) (locs : List Loc) (ls : Array Slot), va_P (dC, dI) vwCl (wsM h ad cA fv_51 wd_45 ar_53) H → va_S (aM h ad s.heap.size) s.heap H locs → lv_has ls 10 [(0, .ref h), (1, .int kk), (2, .int v_1), (5, .int x_49)] → W p l e R9 s m a9 below meth c H locs 0 0 Q9 (F0 m 302 ls [])) ?_ (fun hj_141 => ?_)
                  · intro  H locs ls  hP hS hl
                    refine lv_iconst (v := 0) hx hb dX12_leave_302 (by decide) ?_
                    refine lv_istore (lv' := [(6, .int 0), (0, .ref h), (1, .int kk), (2, .int v_1), (5, .int x_49)]) hx hb dX12_leave_303 hl (by decide) rfl (fun ls hl => ?_)
                    refine lv_aload_n hx hb dX12_leave_305 rfl (lv_at hl 1 rfl) ?_
                    refine lv_iload_n hx hb dX12_leave_306 rfl (lv_at hl 2 rfl) ?_
                    refine lv_iconst (v := 1) hx hb dX12_leave_307 (by decide) ?_
                    refine lv_iload hx hb dX12_leave_308 (lv_at hl 4 rfl) ?_
                    refine lv_aload_n hx hb dX12_leave_310 rfl (lv_at hl 1 rfl) ?_
                    refine gM_78 hx hb htg hown hK hP dX12_leave_311 ?_
                    refine lv_iload_n hx hb dX12_leave_314 rfl (lv_at hl 3 rfl) ?_
                    refine lM_78 hx hb hK hP (iv_in i_2 (by decide) (by decide)) dX12_leave_315 (fun v_142 ev_142 => ?_)
                    obtain rfl : v_24 = v_142 := ev_24.trans ((congrFun ((fA_call (fA_call (fA_call (fA_call (fA_rf [16, 24, 64, 65, 68] _) fa_30 (by decide)) fa_38 (by decide)) fa_48 (by decide)) fa_54 (by decide)) 78 rfl) _).symm.trans ev_142.symm)
                    refine va_calli (va_runV (As := [.int kk, .int 1, .int x_49, .int v_24]) (rest := []) ⟨hx, hb, hml, hown, hts⟩ (m_tells l dC dI H.size h ad cA hd fv_51 wd_45 ar_53 hF_fv_51 hA_ar_53 kk 1 x_49 v_24 h_kk hp_56) (cwV 4 hts (gV kw_8_145 kw_8_147 kw_p_79 kw_1_15 kw_8_148) rfl rfl rfl (by decide +kernel) ⟨Nat.le_of_ble_eq_true rfl, Nat.le_of_ble_eq_true rfl⟩) ⟨fun a U g mk q => ⟨q.1, q.2.1, q.2.2.1, va_K.moved (u := U) (U := U.calling g mk a) (Vm.Alike.refl U.vm) q.2.2.2⟩, va_recv hK hP (ci := 12) (q0 := 0) rfl rfl, fun U hU hW => ⟨rfl, by rw [hU], by rw [hU]; exact hP, va_K.moved hW.alike hK⟩⟩ rfl rfl hl.1 rfl (lv_room (Nat.le_of_ble_eq_true rfl)) dX12_leave_316 ⟨Nat.le_of_ble_eq_true rfl, Nat.le_of_ble_eq_true rfl⟩) hS (fun q _ h9 => aM_up hS q h9) (aM_up hS) (fun r_143 u t H1 locs ht _ hw hB _ hk1 hS => ?_)
                    obtain ⟨fv_144, wd_145, ar_146⟩ := u
                    obtain ⟨hF_fv_144, hA_ar_146, fr_147, fa_148, -⟩ := hw
                    have hP : va_P (dC, dI) vwCl (wsM h ad cA fv_144 wd_145 ar_146) H1 := by have h9 := hB.1; rw [ht] at h9; exact h9
                    have fr_147 : fM [66] fv_51 fv_144 := fr_147
                    have fa_148 : fA [64, 65] ar_53 ar_146 := fa_148
                    generalize H1 = H at hP hS ⊢
                    refine lv_iconst (v := 1) hx hb dX12_leave_319 (by decide) ?_
                    refine lv_icmp_ne (tgt := 496) hx hb dX12_leave_320 (by decide) (fun c_149 => ?_) (fun c_149 => ?_)
                    · skip
                      refine lv_aload_n hx hb dX12_leave_496 rfl (lv_at hl 1 rfl) ?_
                      refine gM_80 hx hb htg hown hK hP dX12_leave_497 ?_
                      refine lv_iload_n hx hb dX12_leave_500 rfl (lv_at hl 2 rfl) ?_
                      refine lv_iload hx hb dX12_leave_501 (lv_at hl 4 rfl) ?_
                      refine sM_80 hx hb hK hP hS hd (iv_in h_kk (by decide) (by decide)) dX12_leave_503 (fun H locs ar_150 ear_150 hP hS => ?_)
                      have hA_ar_150 : rA ar_150 := rA_put hA_ar_146 ear_150 (iv_any _)
                      refine lv_aload_n hx hb dX12_leave_504 rfl (lv_at hl 1 rfl) ?_
                      refine gM_76 hx hb htg hown hK hP dX12_leave_505 ?_
                      refine lv_iload_n hx hb dX12_leave_508 rfl (lv_at hl 3 rfl) ?_
                      refine lv_aload_n hx hb dX12_leave_509 rfl (lv_at hl 1 rfl) ?_
                      refine gM_27 hx hb htg hown hK hP dX12_leave_510 ?_
                      refine lv_iload_n hx hb dX12_leave_513 rfl (lv_at hl 2 rfl) ?_
                      refine lM_27 hx hb hK hP (iv_in h_kk (by decide) (by decide)) dX12_leave_514 (fun v_151 ev_151 => ?_)
                      have i_152 : 0 ≤ v_151.toInt ∧ v_151.toInt ≤ 7 := ev_151 ▸ hA_ar_150 27 _
                      refine sM_76 hx hb hK hP hS hd (iv_in i_2 (by decide) (by decide)) dX12_leave_515 (fun H locs ar_153 ear_153 hP hS => ?_)
                      have hA_ar_153 : rA ar_153 := rA_put hA_ar_150 ear_153 (iv_any _)
                      refine lv_aload_n hx hb dX12_leave_516 rfl (lv_at hl 1 rfl) ?_
                      refine gM_77 hx hb htg hown hK hP dX12_leave_517 ?_
                      refine lv_iload_n hx hb dX12_leave_520 rfl (lv_at hl 3 rfl) ?_
                      refine lv_aload_n hx hb dX12_leave_521 rfl (lv_at hl 1 rfl) ?_
                      refine gM_85 hx hb htg hown hK hP dX12_leave_522 ?_
                      refine my_ti (y := fv 85) ((fr_147 85 rfl).trans ((fr_52 85 rfl).trans ((fr_47 85 rfl).trans ((congrFun efv_41 85).trans ((fr_37 85 rfl).trans ((fr_29 85 rfl).trans ((fr_19 85 rfl)))))))) ?_
                      have i_154 : 0 ≤ (fv 85).toInt ∧ (fv 85).toInt ≤ 840 := hF_fv 85
                      refine lv_iload hx hb dX12_leave_525 (lv_at hl 0 rfl) ?_
                      refine lv_iadd hx hb dX12_leave_527 ?_
                      refine lv_topi (fun v_155 ev_155 => ?_)
                      have t_156 : v_155.toInt = (fv 85).toInt + 0 ∧ 0 ≤ v_155.toInt ∧ v_155.toInt ≤ 840 := iv_addc ev_155 i_154 (by decide) (by decide) (by decide)
                      refine lv_aload_n hx hb dX12_leave_528 rfl (lv_at hl 1 rfl) ?_
                      refine lv_iload_n hx hb dX12_leave_529 rfl (lv_at hl 2 rfl) ?_
                      refine va_calli (va_runV (As := [.int kk]) (rest := [.int v_155, .int v_1, .ref (ad 77)]) ⟨hx, hb, hml, hown, hts⟩ (m_drive l dC dI H.size h ad cA hd fv_144 wd_145 ar_153 hF_fv_144 hA_ar_153 kk h_kk) (cwV 1 hts (gV kw_8_204 kw_8_206 kw_p_91 kw_1_15 kw_8_207) rfl rfl rfl (by decide +kernel) ⟨Nat.le_of_ble_eq_true rfl, Nat.le_of_ble_eq_true rfl⟩) ⟨fun a U g mk q => ⟨q.1, q.2.1, q.2.2.1, va_K.moved (u := U) (U := U.calling g mk a) (Vm.Alike.refl U.vm) q.2.2.2⟩, va_recv hK hP (ci := 12) (q0 := 0) rfl rfl, fun U hU hW => ⟨rfl, by rw [hU], by rw [hU]; exact hP, va_K.moved hW.alike hK⟩⟩ rfl rfl hl.1 rfl (lv_room (Nat.le_of_ble_eq_true rfl)) dX12_leave_530 ⟨Nat.le_of_ble_eq_true rfl, Nat.le_of_ble_eq_true rfl⟩) hS (fun q _ h9 => aM_up hS q h9) (aM_up hS) (fun r_158 u t H1 locs ht _ hw hB _ hk1 hS => ?_)
                      obtain ⟨fv_159, wd_160, ar_161⟩ := u
                      obtain ⟨hF_fv_159, hA_ar_161, fr_162, fa_163, -⟩ := hw
                      have hP : va_P (dC, dI) vwCl (wsM h ad cA fv_159 wd_160 ar_161) H1 := by have h9 := hB.1; rw [ht] at h9; exact h9
                      have fr_162 : fM [8] fv_144 fv_159 := fr_162
                      have fa_163 : fA [4] ar_153 ar_161 := fa_163
                      generalize H1 = H at hP hS ⊢
                      refine lv_iadd hx hb dX12_leave_533 ?_
                      refine lv_topi (fun v_164 ev_164 => ?_)
                      refine sM_77 hx hb hK hP hS hd (iv_in i_2 (by decide) (by decide)) dX12_leave_534 (fun H locs ar_165 ear_165 hP hS => ?_)
                      have hA_ar_165 : rA ar_165 := rA_put hA_ar_161 ear_165 (iv_any _)
                      refine lv_iconst (v := 0) hx hb dX12_leave_535 (by decide) ?_
                      refine lv_istore (lv' := [(7, .int 0), (6, .int 0), (0, .ref h), (1, .int kk), (2, .int v_1), (5, .int x_49)]) hx hb dX12_leave_536 hl (by decide) rfl (fun ls hl => ?_)
                      refine my_cut (P := fun R9 a9 Q9 => ∀ (n_171 : Nat) (x_166 : Int32) (ar_167 : Nat → Nat → Int32) (H : Heap) (locs : List Loc) (ls : Array Slot), 40 - x_166.toInt < (n_171 : Int) → (0 ≤ x_166.toInt ∧ x_166.toInt ≤ 40) → rA ar_167 → fA [75] ar_165 ar_167 → sW ar_167 → vM fv_159 ar_167 → va_P (dC, dI) vwCl (wsM h ad cA fv_159 wd_160 ar_167) H → va_S (aM h ad s.heap.size) s.heap H locs → lv_has ls 10 [(0, .ref h), (1, .int kk), (7, .int x_166)] → W p l e R9 s m a9 below meth c H locs 0 0 Q9 (F0 m 538 ls [])) ?_ (fun hj_173 => ?_)
                      · intro n_171
                        induction n_171 with
                        | zero => intro x_166 ar_167 H locs ls fu_172 i_x_166 hA_ar_167 fa_168 hp_169 hp_170; exfalso; omega
                        | succ n_171 ih_171 =>
                          intro x_166 ar_167 H locs ls fu_172 i_x_166 hA_ar_167 fa_168 hp_169 hp_170 hP hS hl
                          refine lv_iload hx hb dX12_leave_538 (lv_at hl 2 rfl) ?_
                          refine lv_aload_n hx hb dX12_leave_540 rfl (lv_at hl 0 rfl) ?_
                          refine gM_32 hx hb htg hown hK hP dX12_leave_541 ?_
                          refine my_ti (y := fv 32) ((fr_162 32 rfl).trans ((fr_147 32 rfl).trans ((fr_52 32 rfl).trans ((fr_47 32 rfl).trans ((congrFun efv_41 32).trans ((fr_37 32 rfl).trans ((fr_29 32 rfl).trans ((fr_19 32 rfl))))))))) ?_
                          have i_174 : 0 ≤ (fv 32).toInt ∧ (fv 32).toInt ≤ 40 := hF_fv 32
                          refine lv_icmp_ge (tgt := 586) hx hb dX12_leave_544 (by decide) (fun c_175 => ?_) (fun c_175 => ?_)
                          · skip
                            exact W.vret hx hb hr (fun t ht hW => ⟨⟨(fv_159, wd_160, ar_167), rfl, ⟨hF_fv_159, hA_ar_167, (fM_call (fM_call (fM_call (fM_call (fM_put (fM_call (fM_call (fM_call (fM_rf [8, 36, 66] _) fr_19 (by decide)) fr_29 (by decide)) fr_37 (by decide)) efv_41 (by decide)) fr_47 (by decide)) fr_52 (by decide)) fr_147 (by decide)) fr_162 (by decide)), (fA_call (fA_put (fA_call (fA_put (fA_put (fA_call (fA_call (fA_call (fA_call (fA_call (fA_call (fA_put (fA_rf [4, 16, 24, 64, 65, 68, 75, 76, 77, 78, 79, 80] _) ear_3 (by decide)) fa_20 (by decide)) fa_30 (by decide)) fa_38 (by decide)) fa_48 (by decide)) fa_54 (by decide)) fa_148 (by decide)) ear_150 (by decide)) ear_153 (by decide)) fa_163 (by decide)) ear_165 (by decide)) fa_168 (by decide)), hp_169, trivial⟩, ⟨by rw [ht]; exact hP, va_K.moved hW.alike hK⟩⟩, hS.F ht⟩) hS.2.2 dX12_leave_586
                          · skip
                            have i_176 : 0 ≤ x_166.toInt ∧ x_166.toInt ≤ 39 := iv_lt1 i_x_166 i_174 (Int32.not_le.mp c_175)
                            have i_177 : 1 ≤ (fv 32).toInt ∧ (fv 32).toInt ≤ 40 := iv_lt2 i_x_166 i_174 (Int32.not_le.mp c_175)
                            refine lv_aload_n hx hb dX12_leave_547 rfl (lv_at hl 0 rfl) ?_
                            refine gM_68 hx hb htg hown hK hP dX12_leave_548 ?_
                            refine lv_iload hx hb dX12_leave_551 (lv_at hl 2 rfl) ?_
                            refine lM_68 hx hb hK hP (iv_in i_176 (by decide) (by decide)) dX12_leave_553 (fun v_178 ev_178 => ?_)
                            refine lv_iconst (v := 3) hx hb dX12_leave_554 (by decide) ?_
                            refine my_cut (P := fun R9 a9 Q9 => ∀ (ar_188 : Nat → Nat → Int32) (H : Heap) (locs : List Loc) (ls : Array Slot), rA ar_188 → fA [75] ar_167 ar_188 → sW ar_188 → vM fv_159 ar_188 → va_P (dC, dI) vwCl (wsM h ad cA fv_159 wd_160 ar_188) H → va_S (aM h ad s.heap.size) s.heap H locs → lv_has ls 10 [(0, .ref h), (1, .int kk), (7, .int x_166)] → W p l e R9 s m a9 below meth c H locs 0 0 Q9 (F0 m 580 ls [])) ?_ (fun hj_192 => ?_)
                            · intro ar_188 H locs ls hA_ar_188 fa_189 hp_190 hp_191 hP hS hl
                              obtain ⟨v_193, ev_193⟩ : ∃ z : Int32, z = x_166 + 1 := ⟨_, rfl⟩
                              refine lv_iinc (v := v_193) (lv' := [(7, .int v_193), (0, .ref h), (1, .int kk)]) hx hb dX12_leave_580 hl (k := 2) rfl (by rw [ev_193]; rfl) (by decide) rfl (fun ls hl => ?_)
                              have t_194 : v_193.toInt = x_166.toInt + 1 ∧ 1 ≤ v_193.toInt ∧ v_193.toInt ≤ 40 := iv_addc ev_193 i_176 (by decide) (by decide) (by decide)
                              refine lv_goto (tgt := 538) hx hb dX12_leave_583 (by decide) ?_
                              exact ih_171 v_193 ar_188 _ _ ls (by omega) (iv_w t_194.2 (by decide) (by decide)) hA_ar_188 (fA_call (fA_call (fA_rf [75] _) fa_168 (by decide)) fa_189 (by decide)) hp_190 hp_191 hP hS (lv_sub hl [1, 2, 0] rfl)
                            · skip
                              refine lv_icmp_ne (tgt := 580) hx hb dX12_leave_555 (by decide) (fun c_179 => ?_) (fun c_179 => ?_)
                              · skip
                                exact hj_192 ar_167 _ _ ls hA_ar_167 (fA_rf [75] _) hp_169 hp_170 hP hS (lv_sub hl [0, 1, 2] rfl)
                              · skip
                                have i_180 : 3 ≤ v_178.toInt ∧ v_178.toInt ≤ 3 := iv_eq1 (⟨by decide, by decide⟩ : (3 : Int) ≤ (3 : Int32).toInt ∧ (3 : Int32).toInt ≤ 3) c_179
                                refine lv_aload_n hx hb dX12_leave_558 rfl (lv_at hl 0 rfl) ?_
                                refine gM_71 hx hb htg hown hK hP dX12_leave_559 ?_
                                refine lv_iload hx hb dX12_leave_562 (lv_at hl 2 rfl) ?_
                                refine lM_71 hx hb hK hP (iv_in i_176 (by decide) (by decide)) dX12_leave_564 (fun v_181 ev_181 => ?_)
                                have i_182 : (-1) ≤ v_181.toInt ∧ v_181.toInt ≤ 79 := ev_181 ▸ hA_ar_167 71 _
                                have i_183 : 0 ≤ v_181.toInt ∧ v_181.toInt ≤ 79 := ⟨by have h9 := hp_169 x_166.toNatClampNeg; rw [← ev_178, ← ev_181] at h9; exact h9 (Int.le_trans (by decide) (i_180).1) (Int.le_trans (i_180).2 (by decide)), (i_182).2⟩
                                refine lv_iload_n hx hb dX12_leave_565 rfl (lv_at hl 1 rfl) ?_
                                refine lv_icmp_ne (tgt := 580) hx hb dX12_leave_566 (by decide) (fun c_184 => ?_) (fun c_184 => ?_)
                                · skip
                                  exact hj_192 ar_167 _ _ ls hA_ar_167 (fA_rf [75] _) hp_169 hp_170 hP hS (lv_sub hl [0, 1, 2] rfl)
                                · skip
                                  refine lv_aload_n hx hb dX12_leave_569 rfl (lv_at hl 0 rfl) ?_
                                  refine gM_75 hx hb htg hown hK hP dX12_leave_570 ?_
                                  refine lv_iload hx hb dX12_leave_573 (lv_at hl 2 rfl) ?_
                                  refine lv_dup2_11 hx hb dX12_leave_575 rfl rfl ?_
                                  refine lM_75 hx hb hK hP (iv_in i_176 (by decide) (by decide)) dX12_leave_576 (fun v_185 ev_185 => ?_)
                                  refine lv_iconst (v := 1) hx hb dX12_leave_577 (by decide) ?_
                                  refine lv_iadd hx hb dX12_leave_578 ?_
                                  refine lv_topi (fun v_186 ev_186 => ?_)
                                  refine sM_75 hx hb hK hP hS hd (iv_in i_176 (by decide) (by decide)) dX12_leave_579 (fun H locs ar_187 ear_187 hP hS => ?_)
                                  have hA_ar_187 : rA ar_187 := rA_put hA_ar_167 ear_187 (iv_any _)
                                  exact hj_192 ar_187 _ _ ls hA_ar_187 (fA_put (fA_rf [75] _) ear_187 (by decide)) (sW_fr hp_169 (fA_put (fA_rf [75] _) ear_187 (by decide)) rfl rfl) (vM_fr hp_170 (fM_rf [] _) (fA_put (fA_rf [75] _) ear_187 (by decide)) rfl rfl rfl rfl rfl) hP hS (lv_sub hl [0, 1, 2] rfl)
                      · skip
                        have z_196 : (0 : Int32).toInt = 0 := by decide
                        exact hj_173 41 0 ar_165 _ _ ls (by first | decide | omega) (iv_w (⟨by decide, by decide⟩ : (0 : Int) ≤ (0 : Int32).toInt ∧ (0 : Int32).toInt ≤ 0) (by decide) (by decide)) hA_ar_165 (fA_rf [75] _) (sW_fr hp_55 (fA_put (fA_call (fA_put (fA_put (fA_call (fA_rf [4, 64, 65, 76, 77, 80] _) fa_148 (by decide)) ear_150 (by decide)) ear_153 (by decide)) fa_163 (by decide)) ear_165 (by decide)) rfl rfl) (vM_fr hp_56 (fM_call (fM_call (fM_rf [8, 66] _) fr_147 (by decide)) fr_162 (by decide)) (fA_put (fA_call (fA_put (fA_put (fA_call (fA_rf [4, 64, 65, 76, 77, 80] _) fa_148 (by decide)) ear_150 (by decide)) ear_153 (by decide)) fa_163 (by decide)) ear_165 (by decide)) rfl rfl rfl rfl rfl) hP hS (lv_sub hl [2, 3, 0] rfl)
                    · skip
                      have i_197 : 1 ≤ r_143.toInt ∧ r_143.toInt ≤ 1 := iv_eq1 (⟨by decide, by decide⟩ : (1 : Int) ≤ (1 : Int32).toInt ∧ (1 : Int32).toInt ≤ 1) c_149
                      refine lv_aload_n hx hb dX12_leave_323 rfl (lv_at hl 1 rfl) ?_
                      refine lv_iload_n hx hb dX12_leave_324 rfl (lv_at hl 2 rfl) ?_
                      refine lv_iconst (v := 4) hx hb dX12_leave_325 (by decide) ?_
                      refine lv_iload hx hb dX12_leave_326 (lv_at hl 4 rfl) ?_
                      refine lv_aload_n hx hb dX12_leave_328 rfl (lv_at hl 1 rfl) ?_
                      refine gM_78 hx hb htg hown hK hP dX12_leave_329 ?_
                      refine lv_iload_n hx hb dX12_leave_332 rfl (lv_at hl 3 rfl) ?_
                      refine lM_78 hx hb hK hP (iv_in i_2 (by decide) (by decide)) dX12_leave_333 (fun v_198 ev_198 => ?_)
                      obtain rfl : v_24 = v_198 := ev_24.trans ((congrFun ((fA_call (fA_call (fA_call (fA_call (fA_call (fA_rf [16, 24, 64, 65, 68] _) fa_30 (by decide)) fa_38 (by decide)) fa_48 (by decide)) fa_54 (by decide)) fa_148 (by decide)) 78 rfl) _).symm.trans ev_198.symm)
                      refine va_calli (va_runV (As := [.int kk, .int 4, .int x_49, .int v_24]) (rest := []) ⟨hx, hb, hml, hown, hts⟩ (m_tells l dC dI H.size h ad cA hd fv_144 wd_145 ar_146 hF_fv_144 hA_ar_146 kk 4 x_49 v_24 h_kk (vM_fr hp_56 (fM_call (fM_rf [66] _) fr_147 (by decide)) (fA_call (fA_rf [64, 65] _) fa_148 (by decide)) rfl rfl rfl rfl rfl)) (cwV 4 hts (gV kw_8_145 kw_8_147 kw_p_79 kw_1_15 kw_8_148) rfl rfl rfl (by decide +kernel) ⟨Nat.le_of_ble_eq_true rfl, Nat.le_of_ble_eq_true rfl⟩) ⟨fun a U g mk q => ⟨q.1, q.2.1, q.2.2.1, va_K.moved (u := U) (U := U.calling g mk a) (Vm.Alike.refl U.vm) q.2.2.2⟩, va_recv hK hP (ci := 12) (q0 := 0) rfl rfl, fun U hU hW => ⟨rfl, by rw [hU], by rw [hU]; exact hP, va_K.moved hW.alike hK⟩⟩ rfl rfl hl.1 rfl (lv_room (Nat.le_of_ble_eq_true rfl)) dX12_leave_334 ⟨Nat.le_of_ble_eq_true rfl, Nat.le_of_ble_eq_true rfl⟩) hS (fun q _ h9 => aM_up hS q h9) (aM_up hS) (fun r_199 u t H1 locs ht _ hw hB _ hk1 hS => ?_)
                      obtain ⟨fv_200, wd_201, ar_202⟩ := u
                      obtain ⟨hF_fv_200, hA_ar_202, fr_203, fa_204, -⟩ := hw
                      have hP : va_P (dC, dI) vwCl (wsM h ad cA fv_200 wd_201 ar_202) H1 := by have h9 := hB.1; rw [ht] at h9; exact h9
                      have fr_203 : fM [66] fv_144 fv_200 := fr_203
                      have fa_204 : fA [64, 65] ar_146 ar_202 := fa_204
                      generalize H1 = H at hP hS ⊢
                      refine lv_istore (lv' := [(7, .int r_199), (6, .int 0), (0, .ref h), (1, .int kk), (2, .int v_1), (5, .int x_49)]) hx hb dX12_leave_337 hl (by decide) rfl (fun ls hl => ?_)
                      refine lv_aload_n hx hb dX12_leave_339 rfl (lv_at hl 2 rfl) ?_
                      refine lv_iload_n hx hb dX12_leave_340 rfl (lv_at hl 3 rfl) ?_
                      refine lv_iconst (v := 3) hx hb dX12_leave_341 (by decide) ?_
                      refine lv_iload hx hb dX12_leave_342 (lv_at hl 5 rfl) ?_
                      refine lv_aload_n hx hb dX12_leave_344 rfl (lv_at hl 2 rfl) ?_
                      refine gM_78 hx hb htg hown hK hP dX12_leave_345 ?_
                      refine lv_iload_n hx hb dX12_leave_348 rfl (lv_at hl 4 rfl) ?_
                      refine lM_78 hx hb hK hP (iv_in i_2 (by decide) (by decide)) dX12_leave_349 (fun v_205 ev_205 => ?_)
                      obtain rfl : v_24 = v_205 := ev_24.trans ((congrFun ((fA_call (fA_call (fA_call (fA_call (fA_call (fA_call (fA_rf [16, 24, 64, 65, 68] _) fa_30 (by decide)) fa_38 (by decide)) fa_48 (by decide)) fa_54 (by decide)) fa_148 (by decide)) fa_204 (by decide)) 78 rfl) _).symm.trans ev_205.symm)
                      refine va_calli (va_runV (As := [.int kk, .int 3, .int x_49, .int v_24]) (rest := []) ⟨hx, hb, hml, hown, hts⟩ (m_tells l dC dI H.size h ad cA hd fv_200 wd_201 ar_202 hF_fv_200 hA_ar_202 kk 3 x_49 v_24 h_kk (vM_fr hp_56 (fM_call (fM_call (fM_rf [66] _) fr_147 (by decide)) fr_203 (by decide)) (fA_call (fA_call (fA_rf [64, 65] _) fa_148 (by decide)) fa_204 (by decide)) rfl rfl rfl rfl rfl)) (cwV 4 hts (gV kw_8_145 kw_8_147 kw_p_79 kw_1_15 kw_8_148) rfl rfl rfl (by decide +kernel) ⟨Nat.le_of_ble_eq_true rfl, Nat.le_of_ble_eq_true rfl⟩) ⟨fun a U g mk q => ⟨q.1, q.2.1, q.2.2.1, va_K.moved (u := U) (U := U.calling g mk a) (Vm.Alike.refl U.vm) q.2.2.2⟩, va_recv hK hP (ci := 12) (q0 := 0) rfl rfl, fun U hU hW => ⟨rfl, by rw [hU], by rw [hU]; exact hP, va_K.moved hW.alike hK⟩⟩ rfl rfl hl.1 rfl (lv_room (Nat.le_of_ble_eq_true rfl)) dX12_leave_350 ⟨Nat.le_of_ble_eq_true rfl, Nat.le_of_ble_eq_true rfl⟩) hS (fun q _ h9 => aM_up hS q h9) (aM_up hS) (fun r_206 u t H1 locs ht _ hw hB _ hk1 hS => ?_)
                      obtain ⟨fv_207, wd_208, ar_209⟩ := u
                      obtain ⟨hF_fv_207, hA_ar_209, fr_210, fa_211, -⟩ := hw
                      have hP : va_P (dC, dI) vwCl (wsM h ad cA fv_207 wd_208 ar_209) H1 := by have h9 := hB.1; rw [ht] at h9; exact h9
                      have fr_210 : fM [66] fv_200 fv_207 := fr_210
                      have fa_211 : fA [64, 65] ar_202 ar_209 := fa_211
                      generalize H1 = H at hP hS ⊢
                      refine lv_istore (lv' := [(6, .int r_206), (7, .int r_199), (0, .ref h), (1, .int kk), (2, .int v_1), (5, .int x_49)]) hx hb dX12_leave_353 hl (by decide) rfl (fun ls hl => ?_)
                      refine lv_aload_n hx hb dX12_leave_355 rfl (lv_at hl 2 rfl) ?_
                      refine gM_78 hx hb htg hown hK hP dX12_leave_356 ?_
                      refine lv_iload_n hx hb dX12_leave_359 rfl (lv_at hl 4 rfl) ?_
                      refine lv_dup2_11 hx hb dX12_leave_360 rfl rfl ?_
                      refine lM_78 hx hb hK hP (iv_in i_2 (by decide) (by decide)) dX12_leave_361 (fun v_212 ev_212 => ?_)
                      obtain rfl : v_24 = v_212 := ev_24.trans ((congrFun ((fA_call (fA_call (fA_call (fA_call (fA_call (fA_call (fA_call (fA_rf [16, 24, 64, 65, 68] _) fa_30 (by decide)) fa_38 (by decide)) fa_48 (by decide)) fa_54 (by decide)) fa_148 (by decide)) fa_204 (by decide)) fa_211 (by decide)) 78 rfl) _).symm.trans ev_212.symm)
                      refine lv_iconst (v := 1) hx hb dX12_leave_362 (by decide) ?_
                      refine lv_iadd hx hb dX12_leave_363 ?_
                      refine lv_topi (fun v_213 ev_213 => ?_)
                      refine sM_78 hx hb hK hP hS hd (iv_in i_2 (by decide) (by decide)) dX12_leave_364 (fun H locs ar_214 ear_214 hP hS => ?_)
                      have hA_ar_214 : rA ar_214 := rA_put hA_ar_209 ear_214 (iv_any _)
                      refine lv_aload_n hx hb dX12_leave_365 rfl (lv_at hl 2 rfl) ?_
                      refine gM_20 hx hb htg hown hK hP dX12_leave_366 ?_
                      refine lv_iload_n hx hb dX12_leave_369 rfl (lv_at hl 4 rfl) ?_
                      refine lM_20 hx hb hK hP (iv_in i_2 (by decide) (by decide)) dX12_leave_370 (fun v_215 ev_215 => ?_)
                      refine lv_iconst (v := 2) hx hb dX12_leave_371 (by decide) ?_
                      refine my_cut (P := fun R9 a9 Q9 => ∀ (x_219 : Int32) (H : Heap) (locs : List Loc) (ls : Array Slot), va_P (dC, dI) vwCl (wsM h ad cA fv_207 wd_208 ar_214) H → va_S (aM h ad s.heap.size) s.heap H locs → lv_has ls 10 [(0, .ref h), (1, .int kk), (2, .int v_1), (5, .int x_49), (6, .int r_206), (7, .int r_199)] → W p l e R9 s m a9 below meth c H locs 0 0 Q9 (F0 m 388 ls [.int x_219])) ?_ (fun hj_220 => ?_)
                      · intro x_219 H locs ls  hP hS hl
                        refine lv_iload hx hb dX12_leave_388 (lv_at hl 5 rfl) ?_
                        refine my_cut (P := fun R9 a9 Q9 => ∀ (x_224 : Int32) (H : Heap) (locs : List Loc) (ls : Array Slot), (0 ≤ x_224.toInt ∧ x_224.toInt ≤ 1) → va_P (dC, dI) vwCl (wsM h ad cA fv_207 wd_208 ar_214) H → va_S (aM h ad s.heap.size) s.heap H locs → lv_has ls 10 [(0, .ref h), (1, .int kk), (2, .int v_1), (5, .int x_49), (6, .int r_206), (7, .int r_199)] → W p l e R9 s m a9 below meth c H locs 0 0 Q9 (F0 m 398 ls [.int x_224])) ?_ (fun hj_225 => ?_)
                        · intro x_224 H locs ls i_x_224 hP hS hl
                          refine lv_istore (lv' := [(8, .int x_224), (0, .ref h), (1, .int kk), (2, .int v_1), (5, .int x_49), (6, .int r_206), (7, .int r_199)]) hx hb dX12_leave_398 hl (by decide) rfl (fun ls hl => ?_)
                          refine lv_iload hx hb dX12_leave_400 (lv_at hl 0 rfl) ?_
                          refine lv_if_ne (tgt := 461) hx hb dX12_leave_402 (by decide) (fun c_226 => ?_) (fun c_226 => ?_)
                          · skip
                            have i_227 : 1 ≤ x_224.toInt ∧ x_224.toInt ≤ 1 := iv_nel i_x_224 (by decide) c_226
                            refine lv_aload_n hx hb dX12_leave_461 rfl (lv_at hl 1 rfl) ?_
                            refine gM_20 hx hb htg hown hK hP dX12_leave_462 ?_
                            refine lv_iload_n hx hb dX12_leave_465 rfl (lv_at hl 3 rfl) ?_
                            refine lM_20 hx hb hK hP (iv_in i_2 (by decide) (by decide)) dX12_leave_466 (fun v_228 ev_228 => ?_)
                            obtain rfl : v_215 = v_228 := ev_215.trans ev_228.symm
                            refine lv_iconst (v := 2) hx hb dX12_leave_467 (by decide) ?_
                            refine my_cut (P := fun R9 a9 Q9 => ∀ (fv_236 : Nat → Int32) (ar_238 : Nat → Nat → Int32) (H : Heap) (locs : List Loc) (ls : Array Slot), rF fv_236 → fM [36] fv_207 fv_236 → rA ar_238 → fA [24] ar_214 ar_238 → sW ar_238 → vM fv_236 ar_238 → va_P (dC, dI) vwCl (wsM h ad cA fv_236 wd_208 ar_238) H → va_S (aM h ad s.heap.size) s.heap H locs → lv_has ls 10 [(0, .ref h), (1, .int kk), (2, .int v_1), (5, .int x_49), (6, .int r_206)] → W p l e R9 s m a9 below meth c H locs 0 0 Q9 (F0 m 496 ls [])) ?_ (fun hj_242 => ?_)
                            · intro fv_236 ar_238 H locs ls hF_fv_236 fr_237 hA_ar_238 fa_239 hp_240 hp_241 hP hS hl
                              refine lv_aload_n hx hb dX12_leave_496 rfl (lv_at hl 0 rfl) ?_
                              refine gM_80 hx hb htg hown hK hP dX12_leave_497 ?_
                              refine lv_iload_n hx hb dX12_leave_500 rfl (lv_at hl 1 rfl) ?_
                              refine lv_iload hx hb dX12_leave_501 (lv_at hl 3 rfl) ?_
                              refine sM_80 hx hb hK hP hS hd (iv_in h_kk (by decide) (by decide)) dX12_leave_503 (fun H locs ar_243 ear_243 hP hS => ?_)
                              have hA_ar_243 : rA ar_243 := rA_put hA_ar_238 ear_243 (iv_any _)
                              refine lv_aload_n hx hb dX12_leave_504 rfl (lv_at hl 0 rfl) ?_
                              refine gM_76 hx hb htg hown hK hP dX12_leave_505 ?_
                              refine lv_iload_n hx hb dX12_leave_508 rfl (lv_at hl 2 rfl) ?_
                              refine lv_aload_n hx hb dX12_leave_509 rfl (lv_at hl 0 rfl) ?_
                              refine gM_27 hx hb htg hown hK hP dX12_leave_510 ?_
                              refine lv_iload_n hx hb dX12_leave_513 rfl (lv_at hl 1 rfl) ?_
                              refine lM_27 hx hb hK hP (iv_in h_kk (by decide) (by decide)) dX12_leave_514 (fun v_244 ev_244 => ?_)
                              have i_245 : 0 ≤ v_244.toInt ∧ v_244.toInt ≤ 7 := ev_244 ▸ hA_ar_243 27 _
                              refine sM_76 hx hb hK hP hS hd (iv_in i_2 (by decide) (by decide)) dX12_leave_515 (fun H locs ar_246 ear_246 hP hS => ?_)
                              have hA_ar_246 : rA ar_246 := rA_put hA_ar_243 ear_246 (iv_any _)
                              refine lv_aload_n hx hb dX12_leave_516 rfl (lv_at hl 0 rfl) ?_
                              refine gM_77 hx hb htg hown hK hP dX12_leave_517 ?_
                              refine lv_iload_n hx hb dX12_leave_520 rfl (lv_at hl 2 rfl) ?_
                              refine lv_aload_n hx hb dX12_leave_521 rfl (lv_at hl 0 rfl) ?_
                              refine gM_85 hx hb htg hown hK hP dX12_leave_522 ?_
                              refine my_ti (y := fv 85) ((fr_237 85 rfl).trans ((fr_210 85 rfl).trans ((fr_203 85 rfl).trans ((fr_147 85 rfl).trans ((fr_52 85 rfl).trans ((fr_47 85 rfl).trans ((congrFun efv_41 85).trans ((fr_37 85 rfl).trans ((fr_29 85 rfl).trans ((fr_19 85 rfl))))))))))) ?_
                              have i_247 : 0 ≤ (fv 85).toInt ∧ (fv 85).toInt ≤ 840 := hF_fv 85
                              refine lv_iload hx hb dX12_leave_525 (lv_at hl 4 rfl) ?_
                              refine lv_iadd hx hb dX12_leave_527 ?_
                              refine lv_topi (fun v_248 ev_248 => ?_)
                              refine lv_aload_n hx hb dX12_leave_528 rfl (lv_at hl 0 rfl) ?_
                              refine lv_iload_n hx hb dX12_leave_529 rfl (lv_at hl 1 rfl) ?_
                              refine va_calli (va_runV (As := [.int kk]) (rest := [.int v_248, .int v_1, .ref (ad 77)]) ⟨hx, hb, hml, hown, hts⟩ (m_drive l dC dI H.size h ad cA hd fv_236 wd_208 ar_246 hF_fv_236 hA_ar_246 kk h_kk) (cwV 1 hts (gV kw_8_204 kw_8_206 kw_p_91 kw_1_15 kw_8_207) rfl rfl rfl (by decide +kernel) ⟨Nat.le_of_ble_eq_true rfl, Nat.le_of_ble_eq_true rfl⟩) ⟨fun a U g mk q => ⟨q.1, q.2.1, q.2.2.1, va_K.moved (u := U) (U := U.calling g mk a) (Vm.Alike.refl U.vm) q.2.2.2⟩, va_recv hK hP (ci := 12) (q0 := 0) rfl rfl, fun U hU hW => ⟨rfl, by rw [hU], by rw [hU]; exact hP, va_K.moved hW.alike hK⟩⟩ rfl rfl hl.1 rfl (lv_room (Nat.le_of_ble_eq_true rfl)) dX12_leave_530 ⟨Nat.le_of_ble_eq_true rfl, Nat.le_of_ble_eq_true rfl⟩) hS (fun q _ h9 => aM_up hS q h9) (aM_up hS) (fun r_249 u t H1 locs ht _ hw hB _ hk1 hS => ?_)
                              obtain ⟨fv_250, wd_251, ar_252⟩ := u
                              obtain ⟨hF_fv_250, hA_ar_252, fr_253, fa_254, -⟩ := hw
                              have hP : va_P (dC, dI) vwCl (wsM h ad cA fv_250 wd_251 ar_252) H1 := by have h9 := hB.1; rw [ht] at h9; exact h9
                              have fr_253 : fM [8] fv_236 fv_250 := fr_253
                              have fa_254 : fA [4] ar_246 ar_252 := fa_254
                              generalize H1 = H at hP hS ⊢
                              refine lv_iadd hx hb dX12_leave_533 ?_
                              refine lv_topi (fun v_255 ev_255 => ?_)
                              refine sM_77 hx hb hK hP hS hd (iv_in i_2 (by decide) (by decide)) dX12_leave_534 (fun H locs ar_256 ear_256 hP hS => ?_)
                              have hA_ar_256 : rA ar_256 := rA_put hA_ar_252 ear_256 (iv_any _)
                              refine lv_iconst (v := 0) hx hb dX12_leave_535 (by decide) ?_
                              refine lv_istore (lv' := [(7, .int 0), (0, .ref h), (1, .int kk), (2, .int v_1), (5, .int x_49), (6, .int r_206)]) hx hb dX12_leave_536 hl (by decide) rfl (fun ls hl => ?_)
                              refine my_cut (P := fun R9 a9 Q9 => ∀ (n_262 : Nat) (x_257 : Int32) (ar_258 : Nat → Nat → Int32) (H : Heap) (locs : List Loc) (ls : Array Slot), 40 - x_257.toInt < (n_262 : Int) → (0 ≤ x_257.toInt ∧ x_257.toInt ≤ 40) → rA ar_258 → fA [75] ar_256 ar_258 → sW ar_258 → vM fv_250 ar_258 → va_P (dC, dI) vwCl (wsM h ad cA fv_250 wd_251 ar_258) H → va_S (aM h ad s.heap.size) s.heap H locs → lv_has ls 10 [(0, .ref h), (1, .int kk), (7, .int x_257)] → W p l e R9 s m a9 below meth c H locs 0 0 Q9 (F0 m 538 ls [])) ?_ (fun hj_264 => ?_)
                              · intro n_262
                                induction n_262 with
                                | zero => intro x_257 ar_258 H locs ls fu_263 i_x_257 hA_ar_258 fa_259 hp_260 hp_261; exfalso; omega
                                | succ n_262 ih_262 =>
                                  intro x_257 ar_258 H locs ls fu_263 i_x_257 hA_ar_258 fa_259 hp_260 hp_261 hP hS hl
                                  refine lv_iload hx hb dX12_leave_538 (lv_at hl 2 rfl) ?_
                                  refine lv_aload_n hx hb dX12_leave_540 rfl (lv_at hl 0 rfl) ?_
                                  refine gM_32 hx hb htg hown hK hP dX12_leave_541 ?_
                                  refine my_ti (y := fv 32) ((fr_253 32 rfl).trans ((fr_237 32 rfl).trans ((fr_210 32 rfl).trans ((fr_203 32 rfl).trans ((fr_147 32 rfl).trans ((fr_52 32 rfl).trans ((fr_47 32 rfl).trans ((congrFun efv_41 32).trans ((fr_37 32 rfl).trans ((fr_29 32 rfl).trans ((fr_19 32 rfl)))))))))))) ?_
                                  have i_265 : 0 ≤ (fv 32).toInt ∧ (fv 32).toInt ≤ 40 := hF_fv 32
                                  refine lv_icmp_ge (tgt := 586) hx hb dX12_leave_544 (by decide) (fun c_266 => ?_) (fun c_266 => ?_)
                                  · skip
                                    exact W.vret hx hb hr (fun t ht hW => ⟨⟨(fv_250, wd_251, ar_258), rfl, ⟨hF_fv_250, hA_ar_258, (fM_call (fM_call (fM_call (fM_call (fM_call (fM_call (fM_call (fM_put (fM_call (fM_call (fM_call (fM_rf [8, 36, 66] _) fr_19 (by decide)) fr_29 (by decide)) fr_37 (by decide)) efv_41 (by decide)) fr_47 (by decide)) fr_52 (by decide)) fr_147 (by decide)) fr_203 (by decide)) fr_210 (by decide)) fr_237 (by decide)) fr_253 (by decide)), (fA_call (fA_put (fA_call (fA_put (fA_put (fA_call (fA_put (fA_call (fA_call (fA_call (fA_call (fA_call (fA_call (fA_call (fA_call (fA_put (fA_rf [4, 16, 24, 64, 65, 68, 75, 76, 77, 78, 79, 80] _) ear_3 (by decide)) fa_20 (by decide)) fa_30 (by decide)) fa_38 (by decide)) fa_48 (by decide)) fa_54 (by decide)) fa_148 (by decide)) fa_204 (by decide)) fa_211 (by decide)) ear_214 (by decide)) fa_239 (by decide)) ear_243 (by decide)) ear_246 (by decide)) fa_254 (by decide)) ear_256 (by decide)) fa_259 (by decide)), hp_260, trivial⟩, ⟨by rw [ht]; exact hP, va_K.moved hW.alike hK⟩⟩, hS.F ht⟩) hS.2.2 dX12_leave_586
                                  · skip
                                    have i_267 : 0 ≤ x_257.toInt ∧ x_257.toInt ≤ 39 := iv_lt1 i_x_257 i_265 (Int32.not_le.mp c_266)
                                    have i_268 : 1 ≤ (fv 32).toInt ∧ (fv 32).toInt ≤ 40 := iv_lt2 i_x_257 i_265 (Int32.not_le.mp c_266)
                                    refine lv_aload_n hx hb dX12_leave_547 rfl (lv_at hl 0 rfl) ?_
                                    refine gM_68 hx hb htg hown hK hP dX12_leave_548 ?_
                                    refine lv_iload hx hb dX12_leave_551 (lv_at hl 2 rfl) ?_
                                    refine lM_68 hx hb hK hP (iv_in i_267 (by decide) (by decide)) dX12_leave_553 (fun v_269 ev_269 => ?_)
                                    refine lv_iconst (v := 3) hx hb dX12_leave_554 (by decide) ?_
                                    refine my_cut (P := fun R9 a9 Q9 => ∀ (ar_279 : Nat → Nat → Int32) (H : Heap) (locs : List Loc) (ls : Array Slot), rA ar_279 → fA [75] ar_258 ar_279 → sW ar_279 → vM fv_250 ar_279 → va_P (dC, dI) vwCl (wsM h ad cA fv_250 wd_251 ar_279) H → va_S (aM h ad s.heap.size) s.heap H locs → lv_has ls 10 [(0, .ref h), (1, .int kk), (7, .int x_257)] → W p l e R9 s m a9 below meth c H locs 0 0 Q9 (F0 m 580 ls [])) ?_ (fun hj_283 => ?_)
                                    · intro ar_279 H locs ls hA_ar_279 fa_280 hp_281 hp_282 hP hS hl
                                      obtain ⟨v_284, ev_284⟩ : ∃ z : Int32, z = x_257 + 1 := ⟨_, rfl⟩
                                      refine lv_iinc (v := v_284) (lv' := [(7, .int v_284), (0, .ref h), (1, .int kk)]) hx hb dX12_leave_580 hl (k := 2) rfl (by rw [ev_284]; rfl) (by decide) rfl (fun ls hl => ?_)
                                      have t_285 : v_284.toInt = x_257.toInt + 1 ∧ 1 ≤ v_284.toInt ∧ v_284.toInt ≤ 40 := iv_addc ev_284 i_267 (by decide) (by decide) (by decide)
                                      refine lv_goto (tgt := 538) hx hb dX12_leave_583 (by decide) ?_
                                      exact ih_262 v_284 ar_279 _ _ ls (by omega) (iv_w t_285.2 (by decide) (by decide)) hA_ar_279 (fA_call (fA_call (fA_rf [75] _) fa_259 (by decide)) fa_280 (by decide)) hp_281 hp_282 hP hS (lv_sub hl [1, 2, 0] rfl)
                                    · skip
                                      refine lv_icmp_ne (tgt := 580) hx hb dX12_leave_555 (by decide) (fun c_270 => ?_) (fun c_270 => ?_)
                                      · skip
                                        exact hj_283 ar_258 _ _ ls hA_ar_258 (fA_rf [75] _) hp_260 hp_261 hP hS (lv_sub hl [0, 1, 2] rfl)
                                      · skip
                                        have i_271 : 3 ≤ v_269.toInt ∧ v_269.toInt ≤ 3 := iv_eq1 (⟨by decide, by decide⟩ : (3 : Int) ≤ (3 : Int32).toInt ∧ (3 : Int32).toInt ≤ 3) c_270
                                        refine lv_aload_n hx hb dX12_leave_558 rfl (lv_at hl 0 rfl) ?_
                                        refine gM_71 hx hb htg hown hK hP dX12_leave_559 ?_
                                        refine lv_iload hx hb dX12_leave_562 (lv_at hl 2 rfl) ?_
                                        refine lM_71 hx hb hK hP (iv_in i_267 (by decide) (by decide)) dX12_leave_564 (fun v_272 ev_272 => ?_)
                                        have i_273 : (-1) ≤ v_272.toInt ∧ v_272.toInt ≤ 79 := ev_272 ▸ hA_ar_258 71 _
                                        have i_274 : 0 ≤ v_272.toInt ∧ v_272.toInt ≤ 79 := ⟨by have h9 := hp_260 x_257.toNatClampNeg; rw [← ev_269, ← ev_272] at h9; exact h9 (Int.le_trans (by decide) (i_271).1) (Int.le_trans (i_271).2 (by decide)), (i_273).2⟩
                                        refine lv_iload_n hx hb dX12_leave_565 rfl (lv_at hl 1 rfl) ?_
                                        refine lv_icmp_ne (tgt := 580) hx hb dX12_leave_566 (by decide) (fun c_275 => ?_) (fun c_275 => ?_)
                                        · skip
                                          exact hj_283 ar_258 _ _ ls hA_ar_258 (fA_rf [75] _) hp_260 hp_261 hP hS (lv_sub hl [0, 1, 2] rfl)
                                        · skip
                                          refine lv_aload_n hx hb dX12_leave_569 rfl (lv_at hl 0 rfl) ?_
                                          refine gM_75 hx hb htg hown hK hP dX12_leave_570 ?_
                                          refine lv_iload hx hb dX12_leave_573 (lv_at hl 2 rfl) ?_
                                          refine lv_dup2_11 hx hb dX12_leave_575 rfl rfl ?_
                                          refine lM_75 hx hb hK hP (iv_in i_267 (by decide) (by decide)) dX12_leave_576 (fun v_276 ev_276 => ?_)
                                          refine lv_iconst (v := 1) hx hb dX12_leave_577 (by decide) ?_
                                          refine lv_iadd hx hb dX12_leave_578 ?_
                                          refine lv_topi (fun v_277 ev_277 => ?_)
                                          refine sM_75 hx hb hK hP hS hd (iv_in i_267 (by decide) (by decide)) dX12_leave_579 (fun H locs ar_278 ear_278 hP hS => ?_)
                                          have hA_ar_278 : rA ar_278 := rA_put hA_ar_258 ear_278 (iv_any _)
                                          exact hj_283 ar_278 _ _ ls hA_ar_278 (fA_put (fA_rf [75] _) ear_278 (by decide)) (sW_fr hp_260 (fA_put (fA_rf [75] _) ear_278 (by decide)) rfl rfl) (vM_fr hp_261 (fM_rf [] _) (fA_put (fA_rf [75] _) ear_278 (by decide)) rfl rfl rfl rfl rfl) hP hS (lv_sub hl [0, 1, 2] rfl)
                              · skip
                                have z_287 : (0 : Int32).toInt = 0 := by decide
                                exact hj_264 41 0 ar_256 _ _ ls (by first | decide | omega) (iv_w (⟨by decide, by decide⟩ : (0 : Int) ≤ (0 : Int32).toInt ∧ (0 : Int32).toInt ≤ 0) (by decide) (by decide)) hA_ar_256 (fA_rf [75] _) (sW_fr hp_240 (fA_put (fA_call (fA_put (fA_put (fA_rf [4, 76, 77, 80] _) ear_243 (by decide)) ear_246 (by decide)) fa_254 (by decide)) ear_256 (by decide)) rfl rfl) (vM_fr hp_241 (fM_call (fM_rf [8] _) fr_253 (by decide)) (fA_put (fA_call (fA_put (fA_put (fA_rf [4, 76, 77, 80] _) ear_243 (by decide)) ear_246 (by decide)) fa_254 (by decide)) ear_256 (by decide)) rfl rfl rfl rfl rfl) hP hS (lv_sub hl [1, 2, 0] rfl)
                            · skip
                              refine lv_icmp_ne (tgt := 485) hx hb dX12_leave_468 (by decide) (fun c_229 => ?_) (fun c_229 => ?_)
                              · skip
                                refine lv_aload_n hx hb dX12_leave_485 rfl (lv_at hl 1 rfl) ?_
                                refine lv_dup hx hb dX12_leave_486 rfl ?_
                                refine gM_36 hx hb htg hown hK hP dX12_leave_487 ?_
                                refine my_ti (y := fv_51 36) ((fr_210 36 rfl).trans ((fr_203 36 rfl).trans ((fr_147 36 rfl)))) ?_
                                refine lv_iload hx hb dX12_leave_490 (lv_at hl 6 rfl) ?_
                                refine lv_isub hx hb dX12_leave_492 ?_
                                refine lv_topi (fun v_230 ev_230 => ?_)
                                refine pM_36 hx hb htg hown hK hP hS hd dX12_leave_493 (fun H locs fv_231 efv_231 hP hS => ?_)
                                have hF_fv_231 : rF fv_231 := rF_put hF_fv_207 efv_231 (iv_any v_230)
                                exact hj_242 fv_231 ar_214 _ _ ls hF_fv_231 (fM_put (fM_rf [36] _) efv_231 (by decide)) hA_ar_214 (fA_rf [24] _) (sW_fr hp_55 (fA_put (fA_call (fA_call (fA_call (fA_rf [64, 65, 78] _) fa_148 (by decide)) fa_204 (by decide)) fa_211 (by decide)) ear_214 (by decide)) rfl rfl) (vM_fr (vM_fr hp_56 (fM_call (fM_call (fM_call (fM_rf [66] _) fr_147 (by decide)) fr_203 (by decide)) fr_210 (by decide)) (fA_put (fA_call (fA_call (fA_call (fA_rf [64, 65, 78] _) fa_148 (by decide)) fa_204 (by decide)) fa_211 (by decide)) ear_214 (by decide)) rfl rfl rfl rfl rfl) (fM_put (fM_rf [36] _) efv_231 (by decide)) (fA_rf [] _) rfl rfl rfl rfl rfl) hP hS (lv_sub hl [1, 2, 3, 4, 5] rfl)
                              · skip
                                have i_232 : 2 ≤ v_215.toInt ∧ v_215.toInt ≤ 2 := iv_eq1 (⟨by decide, by decide⟩ : (2 : Int) ≤ (2 : Int32).toInt ∧ (2 : Int32).toInt ≤ 2) c_229
                                refine lv_aload_n hx hb dX12_leave_471 rfl (lv_at hl 1 rfl) ?_
                                refine gM_24 hx hb htg hown hK hP dX12_leave_472 ?_
                                refine lv_iload_n hx hb dX12_leave_475 rfl (lv_at hl 3 rfl) ?_
                                refine lv_dup2_11 hx hb dX12_leave_476 rfl rfl ?_
                                refine lM_24 hx hb hK hP (iv_in i_2 (by decide) (by decide)) dX12_leave_477 (fun v_233 ev_233 => ?_)
                                refine lv_iload hx hb dX12_leave_478 (lv_at hl 6 rfl) ?_
                                refine lv_isub hx hb dX12_leave_480 ?_
                                refine lv_topi (fun v_234 ev_234 => ?_)
                                refine sM_24 hx hb hK hP hS hd (iv_in i_2 (by decide) (by decide)) dX12_leave_481 (fun H locs ar_235 ear_235 hP hS => ?_)
                                have hA_ar_235 : rA ar_235 := rA_put hA_ar_214 ear_235 (iv_any _)
                                refine lv_goto (tgt := 496) hx hb dX12_leave_482 (by decide) ?_
                                exact hj_242 fv_207 ar_235 _ _ ls hF_fv_207 (fM_rf [36] _) hA_ar_235 (fA_put (fA_rf [24] _) ear_235 (by decide)) (sW_fr (sW_fr hp_55 (fA_put (fA_call (fA_call (fA_call (fA_rf [64, 65, 78] _) fa_148 (by decide)) fa_204 (by decide)) fa_211 (by decide)) ear_214 (by decide)) rfl rfl) (fA_put (fA_rf [24] _) ear_235 (by decide)) rfl rfl) (vM_fr (vM_fr hp_56 (fM_call (fM_call (fM_call (fM_rf [66] _) fr_147 (by decide)) fr_203 (by decide)) fr_210 (by decide)) (fA_put (fA_call (fA_call (fA_call (fA_rf [64, 65, 78] _) fa_148 (by decide)) fa_204 (by decide)) fa_211 (by decide)) ear_214 (by decide)) rfl rfl rfl rfl rfl) (fM_rf [] _) (fA_put (fA_rf [24] _) ear_235 (by decide)) rfl rfl rfl rfl rfl) hP hS (lv_sub hl [1, 2, 3, 4, 5] rfl)
                          · skip
                            have i_288 : 0 ≤ x_224.toInt ∧ x_224.toInt ≤ 0 := iv_eq1 (⟨by decide, by decide⟩ : (0 : Int) ≤ (0 : Int32).toInt ∧ (0 : Int32).toInt ≤ 0) c_226
                            refine lv_aload_n hx hb dX12_leave_405 rfl (lv_at hl 1 rfl) ?_
                            refine gM_79 hx hb htg hown hK hP dX12_leave_406 ?_
                            refine lv_iload_n hx hb dX12_leave_409 rfl (lv_at hl 3 rfl) ?_
                            refine lv_iconst (v := 1) hx hb dX12_leave_410 (by decide) ?_
                            refine sM_79 hx hb hK hP hS hd (iv_in i_2 (by decide) (by decide)) dX12_leave_411 (fun H locs ar_289 ear_289 hP hS => ?_)
                            have hA_ar_289 : rA ar_289 := rA_put hA_ar_214 ear_289 (iv_any _)
                            refine lv_iconst (v := 0) hx hb dX12_leave_412 (by decide) ?_
                            refine lv_istore (lv' := [(9, .int 0), (8, .int x_224), (0, .ref h), (1, .int kk), (2, .int v_1), (5, .int x_49), (6, .int r_206), (7, .int r_199)]) hx hb dX12_leave_413 hl (by decide) rfl (fun ls hl => ?_)
                            refine my_cut (P := fun R9 a9 Q9 => ∀ (n_295 : Nat) (x_290 : Int32) (ar_291 : Nat → Nat → Int32) (H : Heap) (locs : List Loc) (ls : Array Slot), 40 - x_290.toInt < (n_295 : Int) → (0 ≤ x_290.toInt ∧ x_290.toInt ≤ 40) → rA ar_291 → fA [68] ar_289 ar_291 → sW ar_291 → vM fv_207 ar_291 → va_P (dC, dI) vwCl (wsM h ad cA fv_207 wd_208 ar_291) H → va_S (aM h ad s.heap.size) s.heap H locs → lv_has ls 10 [(0, .ref h), (1, .int kk), (9, .int x_290)] → W p l e R9 s m a9 below meth c H locs 0 0 Q9 (F0 m 415 ls [])) ?_ (fun hj_297 => ?_)
                            · intro n_295
                              induction n_295 with
                              | zero => intro x_290 ar_291 H locs ls fu_296 i_x_290 hA_ar_291 fa_292 hp_293 hp_294; exfalso; omega
                              | succ n_295 ih_295 =>
                                intro x_290 ar_291 H locs ls fu_296 i_x_290 hA_ar_291 fa_292 hp_293 hp_294 hP hS hl
                                refine lv_iload hx hb dX12_leave_415 (lv_at hl 2 rfl) ?_
                                refine lv_aload_n hx hb dX12_leave_417 rfl (lv_at hl 0 rfl) ?_
                                refine gM_32 hx hb htg hown hK hP dX12_leave_418 ?_
                                refine my_ti (y := fv 32) ((fr_210 32 rfl).trans ((fr_203 32 rfl).trans ((fr_147 32 rfl).trans ((fr_52 32 rfl).trans ((fr_47 32 rfl).trans ((congrFun efv_41 32).trans ((fr_37 32 rfl).trans ((fr_29 32 rfl).trans ((fr_19 32 rfl)))))))))) ?_
                                have i_298 : 0 ≤ (fv 32).toInt ∧ (fv 32).toInt ≤ 40 := hF_fv 32
                                refine lv_icmp_ge (tgt := 460) hx hb dX12_leave_421 (by decide) (fun c_299 => ?_) (fun c_299 => ?_)
                                · skip
                                  exact W.vret hx hb hr (fun t ht hW => ⟨⟨(fv_207, wd_208, ar_291), rfl, ⟨hF_fv_207, hA_ar_291, (fM_call (fM_call (fM_call (fM_call (fM_call (fM_put (fM_call (fM_call (fM_call (fM_rf [8, 36, 66] _) fr_19 (by decide)) fr_29 (by decide)) fr_37 (by decide)) efv_41 (by decide)) fr_47 (by decide)) fr_52 (by decide)) fr_147 (by decide)) fr_203 (by decide)) fr_210 (by decide)), (fA_call (fA_put (fA_put (fA_call (fA_call (fA_call (fA_call (fA_call (fA_call (fA_call (fA_call (fA_put (fA_rf [4, 16, 24, 64, 65, 68, 75, 76, 77, 78, 79, 80] _) ear_3 (by decide)) fa_20 (by decide)) fa_30 (by decide)) fa_38 (by decide)) fa_48 (by decide)) fa_54 (by decide)) fa_148 (by decide)) fa_204 (by decide)) fa_211 (by decide)) ear_214 (by decide)) ear_289 (by decide)) fa_292 (by decide)), hp_293, trivial⟩, ⟨by rw [ht]; exact hP, va_K.moved hW.alike hK⟩⟩, hS.F ht⟩) hS.2.2 dX12_leave_460
                                · skip
                                  have i_300 : 0 ≤ x_290.toInt ∧ x_290.toInt ≤ 39 := iv_lt1 i_x_290 i_298 (Int32.not_le.mp c_299)
                                  have i_301 : 1 ≤ (fv 32).toInt ∧ (fv 32).toInt ≤ 40 := iv_lt2 i_x_290 i_298 (Int32.not_le.mp c_299)
                                  refine lv_aload_n hx hb dX12_leave_424 rfl (lv_at hl 0 rfl) ?_
                                  refine gM_68 hx hb htg hown hK hP dX12_leave_425 ?_
                                  refine lv_iload hx hb dX12_leave_428 (lv_at hl 2 rfl) ?_
                                  refine lM_68 hx hb hK hP (iv_in i_300 (by decide) (by decide)) dX12_leave_430 (fun v_302 ev_302 => ?_)
                                  refine lv_iconst (v := 3) hx hb dX12_leave_431 (by decide) ?_
                                  refine my_cut (P := fun R9 a9 Q9 => ∀ (ar_311 : Nat → Nat → Int32) (H : Heap) (locs : List Loc) (ls : Array Slot), rA ar_311 → fA [68] ar_291 ar_311 → sW ar_311 → vM fv_207 ar_311 → va_P (dC, dI) vwCl (wsM h ad cA fv_207 wd_208 ar_311) H → va_S (aM h ad s.heap.size) s.heap H locs → lv_has ls 10 [(0, .ref h), (1, .int kk), (9, .int x_290)] → W p l e R9 s m a9 below meth c H locs 0 0 Q9 (F0 m 454 ls [])) ?_ (fun hj_315 => ?_)
                                  · intro ar_311 H locs ls hA_ar_311 fa_312 hp_313 hp_314 hP hS hl
                                    obtain ⟨v_316, ev_316⟩ : ∃ z : Int32, z = x_290 + 1 := ⟨_, rfl⟩
                                    refine lv_iinc (v := v_316) (lv' := [(9, .int v_316), (0, .ref h), (1, .int kk)]) hx hb dX12_leave_454 hl (k := 2) rfl (by rw [ev_316]; rfl) (by decide) rfl (fun ls hl => ?_)
                                    have t_317 : v_316.toInt = x_290.toInt + 1 ∧ 1 ≤ v_316.toInt ∧ v_316.toInt ≤ 40 := iv_addc ev_316 i_300 (by decide) (by decide) (by decide)
                                    refine lv_goto (tgt := 415) hx hb dX12_leave_457 (by decide) ?_
                                    exact ih_295 v_316 ar_311 _ _ ls (by omega) (iv_w t_317.2 (by decide) (by decide)) hA_ar_311 (fA_call (fA_call (fA_rf [68] _) fa_292 (by decide)) fa_312 (by decide)) hp_313 hp_314 hP hS (lv_sub hl [1, 2, 0] rfl)
                                  · skip
                                    refine lv_icmp_ne (tgt := 454) hx hb dX12_leave_432 (by decide) (fun c_303 => ?_) (fun c_303 => ?_)
                                    · skip
                                      exact hj_315 ar_291 _ _ ls hA_ar_291 (fA_rf [68] _) hp_293 hp_294 hP hS (lv_sub hl [0, 1, 2] rfl)
                                    · skip
                                      have i_304 : 3 ≤ v_302.toInt ∧ v_302.toInt ≤ 3 := iv_eq1 (⟨by decide, by decide⟩ : (3 : Int) ≤ (3 : Int32).toInt ∧ (3 : Int32).toInt ≤ 3) c_303
                                      refine lv_aload_n hx hb dX12_leave_435 rfl (lv_at hl 0 rfl) ?_
                                      refine gM_71 hx hb htg hown hK hP dX12_leave_436 ?_
                                      refine lv_iload hx hb dX12_leave_439 (lv_at hl 2 rfl) ?_
                                      refine lM_71 hx hb hK hP (iv_in i_300 (by decide) (by decide)) dX12_leave_441 (fun v_305 ev_305 => ?_)
                                      have i_306 : (-1) ≤ v_305.toInt ∧ v_305.toInt ≤ 79 := ev_305 ▸ hA_ar_291 71 _
                                      have i_307 : 0 ≤ v_305.toInt ∧ v_305.toInt ≤ 79 := ⟨by have h9 := hp_293 x_290.toNatClampNeg; rw [← ev_302, ← ev_305] at h9; exact h9 (Int.le_trans (by decide) (i_304).1) (Int.le_trans (i_304).2 (by decide)), (i_306).2⟩
                                      refine lv_iload_n hx hb dX12_leave_442 rfl (lv_at hl 1 rfl) ?_
                                      refine lv_icmp_ne (tgt := 454) hx hb dX12_leave_443 (by decide) (fun c_308 => ?_) (fun c_308 => ?_)
                                      · skip
                                        exact hj_315 ar_291 _ _ ls hA_ar_291 (fA_rf [68] _) hp_293 hp_294 hP hS (lv_sub hl [0, 1, 2] rfl)
                                      · skip
                                        refine lv_aload_n hx hb dX12_leave_446 rfl (lv_at hl 0 rfl) ?_
                                        refine gM_68 hx hb htg hown hK hP dX12_leave_447 ?_
                                        refine lv_iload hx hb dX12_leave_450 (lv_at hl 2 rfl) ?_
                                        refine lv_iconst (v := 2) hx hb dX12_leave_452 (by decide) ?_
                                        refine sM_68 hx hb hK hP hS hd (iv_in i_300 (by decide) (by decide)) dX12_leave_453 (fun H locs ar_309 ear_309 hP hS => ?_)
                                        have hA_ar_309 : rA ar_309 := rA_put hA_ar_291 ear_309 (iv_any _)
                                        have hp_310 : sW ar_309 := sW_68 hp_293 ear_309 (Or.inr (Or.inr (by have h9 := hp_293 x_290.toNatClampNeg; rw [← ev_302] at h9; exact h9 (Int.le_trans (by decide) (i_304).1) (Int.le_trans (i_304).2 (by decide)))))
                                        exact hj_315 ar_309 _ _ ls hA_ar_309 (fA_put (fA_rf [68] _) ear_309 (by decide)) hp_310 (vM_fr hp_294 (fM_rf [] _) (fA_put (fA_rf [68] _) ear_309 (by decide)) rfl rfl rfl rfl rfl) hP hS (lv_sub hl [0, 1, 2] rfl)
                            · skip
                              have z_319 : (0 : Int32).toInt = 0 := by decide
                              exact hj_297 41 0 ar_289 _ _ ls (by first | decide | omega) (iv_w (⟨by decide, by decide⟩ : (0 : Int) ≤ (0 : Int32).toInt ∧ (0 : Int32).toInt ≤ 0) (by decide) (by decide)) hA_ar_289 (fA_rf [68] _) (sW_fr (sW_fr hp_55 (fA_put (fA_call (fA_call (fA_call (fA_rf [64, 65, 78] _) fa_148 (by decide)) fa_204 (by decide)) fa_211 (by decide)) ear_214 (by decide)) rfl rfl) (fA_put (fA_rf [79] _) ear_289 (by decide)) rfl rfl) (vM_fr (vM_fr hp_56 (fM_call (fM_call (fM_call (fM_rf [66] _) fr_147 (by decide)) fr_203 (by decide)) fr_210 (by decide)) (fA_put (fA_call (fA_call (fA_call (fA_rf [64, 65, 78] _) fa_148 (by decide)) fa_204 (by decide)) fa_211 (by decide)) ear_214 (by decide)) rfl rfl rfl rfl rfl) (fM_rf [] _) (fA_put (fA_rf [79] _) ear_289 (by decide)) rfl rfl rfl rfl rfl) hP hS (lv_sub hl [2, 3, 0] rfl)
                        · skip
                          refine lv_icmp_lt (tgt := 397) hx hb dX12_leave_390 (by decide) (fun c_221 => ?_) (fun c_221 => ?_)
                          · skip
                            have i_222 : (-2147483648) ≤ x_219.toInt ∧ x_219.toInt ≤ 2147483646 := iv_lt1 (iv_any x_219) (iv_any r_199) c_221
                            have i_223 : (-2147483647) ≤ r_199.toInt ∧ r_199.toInt ≤ 2147483647 := iv_lt2 (iv_any x_219) (iv_any r_199) c_221
                            refine lv_iconst (v := 0) hx hb dX12_leave_397 (by decide) ?_
                            exact hj_225 0 _ _ ls (iv_w (⟨by decide, by decide⟩ : (0 : Int) ≤ (0 : Int32).toInt ∧ (0 : Int32).toInt ≤ 0) (by decide) (by decide)) hP hS (lv_sub hl [0, 1, 2, 3, 4, 5] rfl)
                          · skip
                            refine lv_iconst (v := 1) hx hb dX12_leave_393 (by decide) ?_
                            refine lv_goto (tgt := 398) hx hb dX12_leave_394 (by decide) ?_
                            exact hj_225 1 _ _ ls (iv_w (⟨by decide, by decide⟩ : (1 : Int) ≤ (1 : Int32).toInt ∧ (1 : Int32).toInt ≤ 1) (by decide) (by decide)) hP hS (lv_sub hl [0, 1, 2, 3, 4, 5] rfl)
                      · skip
                        refine lv_icmp_ne (tgt := 384) hx hb dX12_leave_372 (by decide) (fun c_216 => ?_) (fun c_216 => ?_)
                        · skip
                          refine lv_aload_n hx hb dX12_leave_384 rfl (lv_at hl 2 rfl) ?_
                          refine gM_36 hx hb htg hown hK hP dX12_leave_385 ?_
                          refine my_ti (y := fv_51 36) ((fr_210 36 rfl).trans ((fr_203 36 rfl).trans ((fr_147 36 rfl)))) ?_
                          exact hj_220 (fv_51 36) _ _ ls  hP hS (lv_sub hl [2, 3, 4, 5, 0, 1] rfl)
                        · skip
                          have i_217 : 2 ≤ v_215.toInt ∧ v_215.toInt ≤ 2 := iv_eq1 (⟨by decide, by decide⟩ : (2 : Int) ≤ (2 : Int32).toInt ∧ (2 : Int32).toInt ≤ 2) c_216
                          refine lv_aload_n hx hb dX12_leave_375 rfl (lv_at hl 2 rfl) ?_
                          refine gM_24 hx hb htg hown hK hP dX12_leave_376 ?_
                          refine lv_iload_n hx hb dX12_leave_379 rfl (lv_at hl 4 rfl) ?_
                          refine lM_24 hx hb hK hP (iv_in i_2 (by decide) (by decide)) dX12_leave_380 (fun v_218 ev_218 => ?_)
                          refine lv_goto (tgt := 388) hx hb dX12_leave_381 (by decide) ?_
                          exact hj_220 v_218 _ _ ls  hP hS (lv_sub hl [2, 3, 4, 5, 0, 1] rfl)
                  · skip
                    refine lv_icmp_gt (tgt := 302) hx hb dX12_leave_136 (by decide) (fun c_60 => ?_) (fun c_60 => ?_)
                    · skip
                      have i_61 : 720 ≤ x_50.toInt ∧ x_50.toInt ≤ 720 := iv_lt2 (⟨by decide, by decide⟩ : (719 : Int) ≤ (719 : Int32).toInt ∧ (719 : Int32).toInt ≤ 719) i_x_50 c_60
                      exact hj_141  _ _ ls  hP hS (lv_sub hl [0, 1, 2, 4] rfl)
                    · skip
                      have i_62 : 0 ≤ x_50.toInt ∧ x_50.toInt ≤ 719 := iv_le1 i_x_50 (⟨by decide, by decide⟩ : (719 : Int) ≤ (719 : Int32).toInt ∧ (719 : Int32).toInt ≤ 719) (Int32.not_lt.mp c_60)
                      refine lv_iload hx hb dX12_leave_139 (lv_at hl 4 rfl) ?_
                      refine lv_aload_n hx hb dX12_leave_141 rfl (lv_at hl 0 rfl) ?_
                      refine gM_22 hx hb htg hown hK hP dX12_leave_142 ?_
                      refine lv_iload_n hx hb dX12_leave_145 rfl (lv_at hl 2 rfl) ?_
                      refine lM_22 hx hb hK hP (iv_in i_2 (by decide) (by decide)) dX12_leave_146 (fun v_63 ev_63 => ?_)
                      refine lv_icmp_ge (tgt := 302) hx hb dX12_leave_147 (by decide) (fun c_64 => ?_) (fun c_64 => ?_)
                      · skip
                        exact hj_141  _ _ ls  hP hS (lv_sub hl [0, 1, 2, 4] rfl)
                      · skip
                        have i_65 : 0 ≤ x_49.toInt ∧ x_49.toInt ≤ 2147483646 := iv_lt1 i_x_49 (iv_any v_63) (Int32.not_le.mp c_64)
                        have i_66 : 1 ≤ v_63.toInt ∧ v_63.toInt ≤ 2147483647 := iv_lt2 i_x_49 (iv_any v_63) (Int32.not_le.mp c_64)
                        refine lv_iconst (v := 0) hx hb dX12_leave_150 (by decide) ?_
                        refine lv_istore (lv' := [(7, .int 0), (0, .ref h), (1, .int kk), (2, .int v_1), (4, .int r_43), (5, .int x_49), (6, .int x_50)]) hx hb dX12_leave_151 hl (by decide) rfl (fun ls hl => ?_)
                        refine my_cut (P := fun R9 a9 Q9 => ∀ (n_75 : Nat) (x_67 : Int32) (x_68 : Int32) (fv_69 : Nat → Int32) (ar_71 : Nat → Nat → Int32) (H : Heap) (locs : List Loc) (ls : Array Slot), 40 - x_68.toInt < (n_75 : Int) → (0 ≤ x_67.toInt ∧ x_67.toInt ≤ 2147483647) → (0 ≤ x_68.toInt ∧ x_68.toInt ≤ 40) → rF fv_69 → fM [36] fv_51 fv_69 → rA ar_71 → fA [16, 24, 68] ar_53 ar_71 → sW ar_71 → vM fv_69 ar_71 → va_P (dC, dI) vwCl (wsM h ad cA fv_69 wd_45 ar_71) H → va_S (aM h ad s.heap.size) s.heap H locs → lv_has ls 10 [(0, .ref h), (1, .int kk), (2, .int v_1), (4, .int r_43), (5, .int x_67), (6, .int x_50), (7, .int x_68)] → W p l e R9 s m a9 below meth c H locs 0 0 Q9 (F0 m 153 ls [])) ?_ (fun hj_77 => ?_)
                        · intro n_75
                          induction n_75 with
                          | zero => intro x_67 x_68 fv_69 ar_71 H locs ls fu_76 i_x_67 i_x_68 hF_fv_69 fr_70 hA_ar_71 fa_72 hp_73 hp_74; exfalso; omega
                          | succ n_75 ih_75 =>
                            intro x_67 x_68 fv_69 ar_71 H locs ls fu_76 i_x_67 i_x_68 hF_fv_69 fr_70 hA_ar_71 fa_72 hp_73 hp_74 hP hS hl
                            refine lv_iload hx hb dX12_leave_153 (lv_at hl 6 rfl) ?_
                            refine lv_aload_n hx hb dX12_leave_155 rfl (lv_at hl 0 rfl) ?_
                            refine gM_32 hx hb htg hown hK hP dX12_leave_156 ?_
                            refine my_ti (y := fv 32) ((fr_70 32 rfl).trans ((fr_52 32 rfl).trans ((fr_47 32 rfl).trans ((congrFun efv_41 32).trans ((fr_37 32 rfl).trans ((fr_29 32 rfl).trans ((fr_19 32 rfl)))))))) ?_
                            have i_78 : 0 ≤ (fv 32).toInt ∧ (fv 32).toInt ≤ 40 := hF_fv 32
                            refine my_cut (P := fun R9 a9 Q9 => ∀  (H : Heap) (locs : List Loc) (ls : Array Slot), va_P (dC, dI) vwCl (wsM h ad cA fv_69 wd_45 ar_71) H → va_S (aM h ad s.heap.size) s.heap H locs → lv_has ls 10 [(0, .ref h), (1, .int kk), (2, .int v_1), (4, .int r_43), (5, .int x_67), (6, .int x_50)] → W p l e R9 s m a9 below meth c H locs 0 0 Q9 (F0 m 296 ls [])) ?_ (fun hj_136 => ?_)
                            · intro  H locs ls  hP hS hl
                              obtain ⟨v_137, ev_137⟩ : ∃ z : Int32, z = x_50 + 1 := ⟨_, rfl⟩
                              refine lv_iinc (v := v_137) (lv' := [(6, .int v_137), (0, .ref h), (1, .int kk), (2, .int v_1), (4, .int r_43), (5, .int x_67)]) hx hb dX12_leave_296 hl (k := 5) rfl (by rw [ev_137]; rfl) (by decide) rfl (fun ls hl => ?_)
                              have t_138 : v_137.toInt = x_50.toInt + 1 ∧ 1 ≤ v_137.toInt ∧ v_137.toInt ≤ 720 := iv_addc ev_137 i_62 (by decide) (by decide) (by decide)
                              refine lv_goto (tgt := 131) hx hb dX12_leave_299 (by decide) ?_
                              exact ih_57 x_67 v_137 fv_69 ar_71 _ _ ls (by omega) i_x_67 (iv_w t_138.2 (by decide) (by decide)) hF_fv_69 (fM_call (fM_call (fM_rf [36] _) fr_52 (by decide)) fr_70 (by decide)) hA_ar_71 (fA_call (fA_call (fA_rf [16, 24, 68] _) fa_54 (by decide)) fa_72 (by decide)) hp_73 hp_74 hP hS (lv_sub hl [1, 2, 3, 4, 5, 0] rfl)
                            · skip
                              refine lv_icmp_ge (tgt := 296) hx hb dX12_leave_159 (by decide) (fun c_79 => ?_) (fun c_79 => ?_)
                              · skip
                                exact hj_136  _ _ ls  hP hS (lv_sub hl [0, 1, 2, 3, 4, 5] rfl)
                              · skip
                                have i_80 : 0 ≤ x_68.toInt ∧ x_68.toInt ≤ 39 := iv_lt1 i_x_68 i_78 (Int32.not_le.mp c_79)
                                have i_81 : 1 ≤ (fv 32).toInt ∧ (fv 32).toInt ≤ 40 := iv_lt2 i_x_68 i_78 (Int32.not_le.mp c_79)
                                refine lv_iload hx hb dX12_leave_162 (lv_at hl 4 rfl) ?_
                                refine lv_aload_n hx hb dX12_leave_164 rfl (lv_at hl 0 rfl) ?_
                                refine gM_22 hx hb htg hown hK hP dX12_leave_165 ?_
                                refine lv_iload_n hx hb dX12_leave_168 rfl (lv_at hl 2 rfl) ?_
                                refine lM_22 hx hb hK hP (iv_in i_2 (by decide) (by decide)) dX12_leave_169 (fun v_82 ev_82 => ?_)
                                obtain rfl : v_63 = v_82 := ev_63.trans ((congrFun ((fA_call (fA_rf [16, 24, 68] _) fa_72 (by decide)) 22 rfl) _).symm.trans ev_82.symm)
                                refine lv_icmp_ge (tgt := 296) hx hb dX12_leave_170 (by decide) (fun c_83 => ?_) (fun c_83 => ?_)
                                · skip
                                  have i_84 : 1 ≤ x_67.toInt ∧ x_67.toInt ≤ 2147483647 := iv_le2 i_66 i_x_67 c_83
                                  exact hj_136  _ _ ls  hP hS (lv_sub hl [0, 1, 2, 3, 4, 5] rfl)
                                · skip
                                  have i_85 : 0 ≤ x_67.toInt ∧ x_67.toInt ≤ 2147483646 := iv_lt1 i_x_67 i_66 (Int32.not_le.mp c_83)
                                  refine lv_aload_n hx hb dX12_leave_173 rfl (lv_at hl 0 rfl) ?_
                                  refine gM_13 hx hb htg hown hK hP dX12_leave_174 ?_
                                  refine lv_iload hx hb dX12_leave_177 (lv_at hl 6 rfl) ?_
                                  refine lM_13 hx hb hK hP (iv_in i_80 (by decide) (by decide)) dX12_leave_179 (fun v_86 ev_86 => ?_)
                                  refine lv_iload hx hb dX12_leave_180 (lv_at hl 5 rfl) ?_
                                  refine my_cut (P := fun R9 a9 Q9 => ∀ (x_125 : Int32) (fv_126 : Nat → Int32) (ar_128 : Nat → Nat → Int32) (H : Heap) (locs : List Loc) (ls : Array Slot), (0 ≤ x_125.toInt ∧ x_125.toInt ≤ 2147483647) → rF fv_126 → fM [36] fv_69 fv_126 → rA ar_128 → fA [16, 24, 68] ar_71 ar_128 → sW ar_128 → vM fv_126 ar_128 → va_P (dC, dI) vwCl (wsM h ad cA fv_126 wd_45 ar_128) H → va_S (aM h ad s.heap.size) s.heap H locs → lv_has ls 10 [(0, .ref h), (1, .int kk), (2, .int v_1), (4, .int r_43), (5, .int x_125), (6, .int x_50), (7, .int x_68)] → W p l e R9 s m a9 below meth c H locs 0 0 Q9 (F0 m 290 ls [])) ?_ (fun hj_132 => ?_)
                                  · intro x_125 fv_126 ar_128 H locs ls i_x_125 hF_fv_126 fr_127 hA_ar_128 fa_129 hp_130 hp_131 hP hS hl
                                    obtain ⟨v_133, ev_133⟩ : ∃ z : Int32, z = x_68 + 1 := ⟨_, rfl⟩
                                    refine lv_iinc (v := v_133) (lv' := [(7, .int v_133), (0, .ref h), (1, .int kk), (2, .int v_1), (4, .int r_43), (5, .int x_125), (6, .int x_50)]) hx hb dX12_leave_290 hl (k := 6) rfl (by rw [ev_133]; rfl) (by decide) rfl (fun ls hl => ?_)
                                    have t_134 : v_133.toInt = x_68.toInt + 1 ∧ 1 ≤ v_133.toInt ∧ v_133.toInt ≤ 40 := iv_addc ev_133 i_80 (by decide) (by decide) (by decide)
                                    refine lv_goto (tgt := 153) hx hb dX12_leave_293 (by decide) ?_
                                    exact ih_75 x_125 v_133 fv_126 ar_128 _ _ ls (by omega) i_x_125 (iv_w t_134.2 (by decide) (by decide)) hF_fv_126 (fM_call (fM_call (fM_rf [36] _) fr_70 (by decide)) fr_127 (by decide)) hA_ar_128 (fA_call (fA_call (fA_rf [16, 24, 68] _) fa_72 (by decide)) fa_129 (by decide)) hp_130 hp_131 hP hS (lv_sub hl [1, 2, 3, 4, 5, 6, 0] rfl)
                                  · skip
                                    refine lv_icmp_ne (tgt := 290) hx hb dX12_leave_182 (by decide) (fun c_87 => ?_) (fun c_87 => ?_)
                                    · skip
                                      exact hj_132 x_67 fv_69 ar_71 _ _ ls (iv_w i_85 (by decide) (by decide)) hF_fv_69 (fM_rf [36] _) hA_ar_71 (fA_rf [16, 24, 68] _) hp_73 hp_74 hP hS (lv_sub hl [0, 1, 2, 3, 4, 5, 6] rfl)
                                    · skip
                                      have i_88 : 0 ≤ v_86.toInt ∧ v_86.toInt ≤ 719 := iv_eq1 i_62 c_87
                                      refine lv_aload_n hx hb dX12_leave_185 rfl (lv_at hl 0 rfl) ?_
                                      refine gM_68 hx hb htg hown hK hP dX12_leave_186 ?_
                                      refine lv_iload hx hb dX12_leave_189 (lv_at hl 6 rfl) ?_
                                      refine lM_68 hx hb hK hP (iv_in i_80 (by decide) (by decide)) dX12_leave_191 (fun v_89 ev_89 => ?_)
                                      refine lv_iconst (v := 2) hx hb dX12_leave_192 (by decide) ?_
                                      refine lv_icmp_ne (tgt := 290) hx hb dX12_leave_193 (by decide) (fun c_90 => ?_) (fun c_90 => ?_)
                                      · skip
                                        exact hj_132 x_67 fv_69 ar_71 _ _ ls (iv_w i_85 (by decide) (by decide)) hF_fv_69 (fM_rf [36] _) hA_ar_71 (fA_rf [16, 24, 68] _) hp_73 hp_74 hP hS (lv_sub hl [0, 1, 2, 3, 4, 5, 6] rfl)
                                      · skip
                                        have i_91 : 2 ≤ v_89.toInt ∧ v_89.toInt ≤ 2 := iv_eq1 (⟨by decide, by decide⟩ : (2 : Int) ≤ (2 : Int32).toInt ∧ (2 : Int32).toInt ≤ 2) c_90
                                        refine lv_aload_n hx hb dX12_leave_196 rfl (lv_at hl 0 rfl) ?_
                                        refine gM_71 hx hb htg hown hK hP dX12_leave_197 ?_
                                        refine lv_iload hx hb dX12_leave_200 (lv_at hl 6 rfl) ?_
                                        refine lM_71 hx hb hK hP (iv_in i_80 (by decide) (by decide)) dX12_leave_202 (fun v_92 ev_92 => ?_)
                                        have i_93 : (-1) ≤ v_92.toInt ∧ v_92.toInt ≤ 79 := ev_92 ▸ hA_ar_71 71 _
                                        have i_94 : 0 ≤ v_92.toInt ∧ v_92.toInt ≤ 79 := ⟨by have h9 := hp_73 x_68.toNatClampNeg; rw [← ev_89, ← ev_92] at h9; exact h9 (Int.le_trans (by decide) (i_91).1) (Int.le_trans (i_91).2 (by decide)), (i_93).2⟩
                                        refine lv_iload_n hx hb dX12_leave_203 rfl (lv_at hl 1 rfl) ?_
                                        refine lv_icmp_ne (tgt := 290) hx hb dX12_leave_204 (by decide) (fun c_95 => ?_) (fun c_95 => ?_)
                                        · skip
                                          exact hj_132 x_67 fv_69 ar_71 _ _ ls (iv_w i_85 (by decide) (by decide)) hF_fv_69 (fM_rf [36] _) hA_ar_71 (fA_rf [16, 24, 68] _) hp_73 hp_74 hP hS (lv_sub hl [0, 1, 2, 3, 4, 5, 6] rfl)
                                        · skip
                                          refine lv_aload_n hx hb dX12_leave_207 rfl (lv_at hl 0 rfl) ?_
                                          refine gM_16 hx hb htg hown hK hP dX12_leave_208 ?_
                                          refine lv_iload hx hb dX12_leave_211 (lv_at hl 6 rfl) ?_
                                          refine lM_16 hx hb hK hP (iv_in i_80 (by decide) (by decide)) dX12_leave_213 (fun v_96 ev_96 => ?_)
                                          refine lv_iload hx hb dX12_leave_214 (lv_at hl 3 rfl) ?_
                                          refine lv_icmp_ge (tgt := 222) hx hb dX12_leave_216 (by decide) (fun c_97 => ?_) (fun c_97 => ?_)
                                          · skip
                                            refine lv_aload_n hx hb dX12_leave_222 rfl (lv_at hl 0 rfl) ?_
                                            refine gM_16 hx hb htg hown hK hP dX12_leave_223 ?_
                                            refine lv_iload hx hb dX12_leave_226 (lv_at hl 6 rfl) ?_
                                            refine lv_dup2_11 hx hb dX12_leave_228 rfl rfl ?_
                                            refine lM_16 hx hb hK hP (iv_in i_80 (by decide) (by decide)) dX12_leave_229 (fun v_98 ev_98 => ?_)
                                            obtain rfl : v_96 = v_98 := ev_96.trans ev_98.symm
                                            refine lv_iload hx hb dX12_leave_230 (lv_at hl 3 rfl) ?_
                                            refine lv_isub hx hb dX12_leave_232 ?_
                                            refine lv_topi (fun v_99 ev_99 => ?_)
                                            refine sM_16 hx hb hK hP hS hd (iv_in i_80 (by decide) (by decide)) dX12_leave_233 (fun H locs ar_100 ear_100 hP hS => ?_)
                                            have hA_ar_100 : rA ar_100 := rA_put hA_ar_71 ear_100 (iv_any _)
                                            refine lv_aload_n hx hb dX12_leave_234 rfl (lv_at hl 0 rfl) ?_
                                            refine gM_20 hx hb htg hown hK hP dX12_leave_235 ?_
                                            refine lv_iload_n hx hb dX12_leave_238 rfl (lv_at hl 2 rfl) ?_
                                            refine lM_20 hx hb hK hP (iv_in i_2 (by decide) (by decide)) dX12_leave_239 (fun v_101 ev_101 => ?_)
                                            refine lv_iconst (v := 2) hx hb dX12_leave_240 (by decide) ?_
                                            refine my_cut (P := fun R9 a9 Q9 => ∀ (fv_111 : Nat → Int32) (ar_113 : Nat → Nat → Int32) (H : Heap) (locs : List Loc) (ls : Array Slot), rF fv_111 → fM [36] fv_69 fv_111 → rA ar_113 → fA [24] ar_100 ar_113 → sW ar_113 → vM fv_111 ar_113 → va_P (dC, dI) vwCl (wsM h ad cA fv_111 wd_45 ar_113) H → va_S (aM h ad s.heap.size) s.heap H locs → lv_has ls 10 [(0, .ref h), (1, .int kk), (2, .int v_1), (4, .int r_43), (5, .int x_67), (6, .int x_50), (7, .int x_68)] → W p l e R9 s m a9 below meth c H locs 0 0 Q9 (F0 m 279 ls [])) ?_ (fun hj_117 => ?_)
                                            · intro fv_111 ar_113 H locs ls hF_fv_111 fr_112 hA_ar_113 fa_114 hp_115 hp_116 hP hS hl
                                              refine lv_aload_n hx hb dX12_leave_279 rfl (lv_at hl 0 rfl) ?_
                                              refine gM_68 hx hb htg hown hK hP dX12_leave_280 ?_
                                              refine lv_iload hx hb dX12_leave_283 (lv_at hl 6 rfl) ?_
                                              refine lv_iconst (v := 3) hx hb dX12_leave_285 (by decide) ?_
                                              refine sM_68 hx hb hK hP hS hd (iv_in i_80 (by decide) (by decide)) dX12_leave_286 (fun H locs ar_118 ear_118 hP hS => ?_)
                                              have hA_ar_118 : rA ar_118 := rA_put hA_ar_113 ear_118 (iv_any _)
                                              have hp_119 : sW ar_118 := sW_68 hp_115 ear_118 (Or.inr (Or.inr (by have h9 := hp_115 x_68.toNatClampNeg; rw [((fA_call (fA_put (fA_rf [16, 24] _) ear_100 (by decide)) fa_114 (by decide)) 68 rfl)] at h9; rw [← ev_89] at h9; exact h9 (Int.le_trans (by decide) (i_91).1) (Int.le_trans (i_91).2 (by decide)))))
                                              obtain ⟨v_120, ev_120⟩ : ∃ z : Int32, z = x_67 + 1 := ⟨_, rfl⟩
                                              refine lv_iinc (v := v_120) (lv' := [(5, .int v_120), (0, .ref h), (1, .int kk), (2, .int v_1), (4, .int r_43), (6, .int x_50), (7, .int x_68)]) hx hb dX12_leave_287 hl (k := 4) rfl (by rw [ev_120]; rfl) (by decide) rfl (fun ls hl => ?_)
                                              have t_121 : v_120.toInt = x_67.toInt + 1 ∧ 1 ≤ v_120.toInt ∧ v_120.toInt ≤ 2147483647 := iv_addc ev_120 i_85 (by decide) (by decide) (by decide)
                                              exact hj_132 v_120 fv_111 ar_118 _ _ ls (iv_w t_121.2 (by decide) (by decide)) hF_fv_111 (fM_call (fM_rf [36] _) fr_112 (by decide)) hA_ar_118 (fA_put (fA_call (fA_put (fA_rf [16, 24, 68] _) ear_100 (by decide)) fa_114 (by decide)) ear_118 (by decide)) hp_119 (vM_fr hp_116 (fM_rf [] _) (fA_put (fA_rf [68] _) ear_118 (by decide)) rfl rfl rfl rfl rfl) hP hS (lv_sub hl [1, 2, 3, 4, 0, 5, 6] rfl)
                                            · skip
                                              refine lv_icmp_ne (tgt := 265) hx hb dX12_leave_241 (by decide) (fun c_102 => ?_) (fun c_102 => ?_)
                                              · skip
                                                refine lv_aload_n hx hb dX12_leave_265 rfl (lv_at hl 0 rfl) ?_
                                                refine lv_aload_n hx hb dX12_leave_266 rfl (lv_at hl 0 rfl) ?_
                                                refine gM_36 hx hb htg hown hK hP dX12_leave_267 ?_
                                                refine lv_iload hx hb dX12_leave_270 (lv_at hl 3 rfl) ?_
                                                refine lv_iadd hx hb dX12_leave_272 ?_
                                                refine lv_topi (fun v_103 ev_103 => ?_)
                                                refine va_calli (va_runS (As := [.int v_103]) (rest := [.ref h]) ⟨hx, hb, hml, hown, hts⟩ (m_cut l H.size v_103) (va_cwS 1 hts (gS kw_8_52 kw_8_53 kw_1_15 kw_8_54) rfl rfl rfl (by decide +kernel) ⟨Nat.le_of_ble_eq_true rfl, Nat.le_of_ble_eq_true rfl⟩) ⟨fun a U g mk q => ⟨q.1, q.2⟩, fun U hU hW => ⟨rfl, congrArg Array.size hU⟩⟩ rfl rfl hl.1 rfl (lv_room (Nat.le_of_ble_eq_true rfl)) dX12_leave_273 ⟨Nat.le_of_ble_eq_true rfl, Nat.le_of_ble_eq_true rfl⟩) hS (fun q _ h9 => nM_up hS q h9) (nM_up hS) (fun r_104 u t H1 locs ht _ hw hB _ hk1 hS => ?_)
                                                have hP := my_keepM hP hk1
                                                generalize H1 = H at hP hS ⊢
                                                refine pM_36 hx hb htg hown hK hP hS hd dX12_leave_276 (fun H locs fv_105 efv_105 hP hS => ?_)
                                                have hF_fv_105 : rF fv_105 := rF_put hF_fv_69 efv_105 (iv_any r_104)
                                                exact hj_117 fv_105 ar_100 _ _ ls hF_fv_105 (fM_put (fM_rf [36] _) efv_105 (by decide)) hA_ar_100 (fA_rf [24] _) (sW_fr hp_73 (fA_put (fA_rf [16] _) ear_100 (by decide)) rfl rfl) (vM_fr hp_74 (fM_put (fM_rf [36] _) efv_105 (by decide)) (fA_put (fA_rf [16] _) ear_100 (by decide)) rfl rfl rfl rfl rfl) hP hS (lv_sub hl [0, 1, 2, 3, 4, 5, 6] rfl)
                                              · skip
                                                have i_106 : 2 ≤ v_101.toInt ∧ v_101.toInt ≤ 2 := iv_eq1 (⟨by decide, by decide⟩ : (2 : Int) ≤ (2 : Int32).toInt ∧ (2 : Int32).toInt ≤ 2) c_102
                                                refine lv_aload_n hx hb dX12_leave_244 rfl (lv_at hl 0 rfl) ?_
                                                refine gM_24 hx hb htg hown hK hP dX12_leave_245 ?_
                                                refine lv_iload_n hx hb dX12_leave_248 rfl (lv_at hl 2 rfl) ?_
                                                refine lv_aload_n hx hb dX12_leave_249 rfl (lv_at hl 0 rfl) ?_
                                                refine gM_24 hx hb htg hown hK hP dX12_leave_250 ?_
                                                refine lv_iload_n hx hb dX12_leave_253 rfl (lv_at hl 2 rfl) ?_
                                                refine lM_24 hx hb hK hP (iv_in i_2 (by decide) (by decide)) dX12_leave_254 (fun v_107 ev_107 => ?_)
                                                refine lv_iload hx hb dX12_leave_255 (lv_at hl 3 rfl) ?_
                                                refine lv_iadd hx hb dX12_leave_257 ?_
                                                refine lv_topi (fun v_108 ev_108 => ?_)
                                                refine va_calli (va_runS (As := [.int v_108]) (rest := [.int v_1, .ref (ad 24)]) ⟨hx, hb, hml, hown, hts⟩ (m_cut l H.size v_108) (va_cwS 1 hts (gS kw_8_52 kw_8_53 kw_1_15 kw_8_54) rfl rfl rfl (by decide +kernel) ⟨Nat.le_of_ble_eq_true rfl, Nat.le_of_ble_eq_true rfl⟩) ⟨fun a U g mk q => ⟨q.1, q.2⟩, fun U hU hW => ⟨rfl, congrArg Array.size hU⟩⟩ rfl rfl hl.1 rfl (lv_room (Nat.le_of_ble_eq_true rfl)) dX12_leave_258 ⟨Nat.le_of_ble_eq_true rfl, Nat.le_of_ble_eq_true rfl⟩) hS (fun q _ h9 => nM_up hS q h9) (nM_up hS) (fun r_109 u t H1 locs ht _ hw hB _ hk1 hS => ?_)
                                                have hP := my_keepM hP hk1
                                                generalize H1 = H at hP hS ⊢
                                                refine sM_24 hx hb hK hP hS hd (iv_in i_2 (by decide) (by decide)) dX12_leave_261 (fun H locs ar_110 ear_110 hP hS => ?_)
                                                have hA_ar_110 : rA ar_110 := rA_put hA_ar_100 ear_110 (iv_any _)
                                                refine lv_goto (tgt := 279) hx hb dX12_leave_262 (by decide) ?_
                                                exact hj_117 fv_69 ar_110 _ _ ls hF_fv_69 (fM_rf [36] _) hA_ar_110 (fA_put (fA_rf [24] _) ear_110 (by decide)) (sW_fr hp_73 (fA_put (fA_put (fA_rf [16, 24] _) ear_100 (by decide)) ear_110 (by decide)) rfl rfl) (vM_fr hp_74 (fM_rf [] _) (fA_put (fA_put (fA_rf [16, 24] _) ear_100 (by decide)) ear_110 (by decide)) rfl rfl rfl rfl rfl) hP hS (lv_sub hl [0, 1, 2, 3, 4, 5, 6] rfl)
                                          · skip
                                            have i_123 : (-2147483648) ≤ v_96.toInt ∧ v_96.toInt ≤ 2147483646 := iv_lt1 (iv_any v_96) (iv_any r_43) (Int32.not_le.mp c_97)
                                            have i_124 : (-2147483647) ≤ r_43.toInt ∧ r_43.toInt ≤ 2147483647 := iv_lt2 (iv_any v_96) (iv_any r_43) (Int32.not_le.mp c_97)
                                            refine lv_goto (tgt := 290) hx hb dX12_leave_219 (by decide) ?_
                                            exact hj_132 x_67 fv_69 ar_71 _ _ ls (iv_w i_85 (by decide) (by decide)) hF_fv_69 (fM_rf [36] _) hA_ar_71 (fA_rf [16, 24, 68] _) hp_73 hp_74 hP hS (lv_sub hl [0, 1, 2, 3, 4, 5, 6] rfl)
                        · skip
                          have z_140 : (0 : Int32).toInt = 0 := by decide
                          exact hj_77 41 x_49 0 fv_51 ar_53 _ _ ls (by first | decide | omega) (iv_w i_65 (by decide) (by decide)) (iv_w (⟨by decide, by decide⟩ : (0 : Int) ≤ (0 : Int32).toInt ∧ (0 : Int32).toInt ≤ 0) (by decide) (by decide)) hF_fv_51 (fM_rf [36] _) hA_ar_53 (fA_rf [16, 24, 68] _) hp_55 hp_56 hP hS (lv_sub hl [1, 2, 3, 4, 5, 6, 0] rfl)
              · skip
                have z_320 : (0 : Int32).toInt = 0 := by decide
                exact hj_59 721 0 0 fv_44 ar_46 _ _ ls (by first | decide | omega) (iv_w (⟨by decide, by decide⟩ : (0 : Int) ≤ (0 : Int32).toInt ∧ (0 : Int32).toInt ≤ 0) (by decide) (by decide)) (iv_w (⟨by decide, by decide⟩ : (0 : Int) ≤ (0 : Int32).toInt ∧ (0 : Int32).toInt ≤ 0) (by decide) (by decide)) hF_fv_44 (fM_rf [36] _) hA_ar_46 (fA_rf [16, 24, 68] _) (sW_fr hp_sW (fA_call (fA_call (fA_call (fA_call (fA_put (fA_rf [4, 64, 65, 80] _) ear_3 (by decide)) fa_20 (by decide)) fa_30 (by decide)) fa_38 (by decide)) fa_48 (by decide)) rfl rfl) (vM_fr hp_vM (fM_call (fM_put (fM_call (fM_call (fM_call (fM_rf [8, 36, 66] _) fr_19 (by decide)) fr_29 (by decide)) fr_37 (by decide)) efv_41 (by decide)) fr_47 (by decide)) (fA_call (fA_call (fA_call (fA_call (fA_put (fA_rf [4, 64, 65, 80] _) ear_3 (by decide)) fa_20 (by decide)) fa_30 (by decide)) fa_38 (by decide)) fa_48 (by decide)) rfl rfl rfl rfl rfl) hP hS (lv_sub hl [5, 6, 4, 2, 1, 0] rfl)
            · skip
              have i_321 : (-2147483648) ≤ (fv 36).toInt ∧ (fv 36).toInt ≤ 2147483646 := iv_lt1 (iv_any (fv 36)) (iv_any r_33) (Int32.not_le.mp c_39)
              have i_322 : (-2147483647) ≤ r_33.toInt ∧ r_33.toInt ≤ 2147483647 := iv_lt2 (iv_any (fv 36)) (iv_any r_33) (Int32.not_le.mp c_39)
              exact W.vret hx hb hr (fun t ht hW => ⟨⟨(fv_34, wd_35, ar_36), rfl, ⟨hF_fv_34, hA_ar_36, (fM_call (fM_call (fM_call (fM_rf [8, 36, 66] _) fr_19 (by decide)) fr_29 (by decide)) fr_37 (by decide)), (fA_call (fA_call (fA_call (fA_put (fA_rf [4, 16, 24, 64, 65, 68, 75, 76, 77, 78, 79, 80] _) ear_3 (by decide)) fa_20 (by decide)) fa_30 (by decide)) fa_38 (by decide)), (sW_fr hp_sW (fA_call (fA_call (fA_call (fA_put (fA_rf [4, 64, 65, 80] _) ear_3 (by decide)) fa_20 (by decide)) fa_30 (by decide)) fa_38 (by decide)) rfl rfl), trivial⟩, ⟨by rw [ht]; exact hP, va_K.moved hW.alike hK⟩⟩, hS.F ht⟩) hS.2.2 dX12_leave_99
          · skip
            have i_323 : 0 ≤ r_25.toInt ∧ r_25.toInt ≤ 0 := iv_eq1 (⟨by decide, by decide⟩ : (0 : Int) ≤ (0 : Int32).toInt ∧ (0 : Int32).toInt ≤ 0) c_31
            exact W.vret hx hb hr (fun t ht hW => ⟨⟨(fv_26, wd_27, ar_28), rfl, ⟨hF_fv_26, hA_ar_28, (fM_call (fM_call (fM_rf [8, 36, 66] _) fr_19 (by decide)) fr_29 (by decide)), (fA_call (fA_call (fA_put (fA_rf [4, 16, 24, 64, 65, 68, 75, 76, 77, 78, 79, 80] _) ear_3 (by decide)) fa_20 (by decide)) fa_30 (by decide)), (sW_fr hp_sW (fA_call (fA_call (fA_put (fA_rf [4, 64, 65, 80] _) ear_3 (by decide)) fa_20 (by decide)) fa_30 (by decide)) rfl rfl), trivial⟩, ⟨by rw [ht]; exact hP, va_K.moved hW.alike hK⟩⟩, hS.F ht⟩) hS.2.2 dX12_leave_76
set_option maxHeartbeats 4000000 in
set_option maxRecDepth 100000 in
theorem m_step (l : Launch) (dC : Nat → ClassId) (dI : Nat → Nat → Nat) (sz h : Nat) (ad : Nat → Nat) (cA : Nat → ClassId) (hd : dM h ad) (fv : Nat → Int32) (wd : Int64) (ar : Nat → Nat → Int32) (hF_fv : rF fv) (hA_ar : rA ar) (hp_sW : sW ar) (hp_vM : vM fv ar) : Met l yX12_step (.code yX12_step cX12_step 2 none :: lw_good) ({ frames := 8, cells := 0, slots := 0, locals := 180 }) (va_Pc [.ref h] (prM dC dI h ad cA fv wd ar sz)) (va_Qv (fun (u : mS) => rF u.1 ∧ rA u.2.2 ∧ fM [8, 36, 66] fv u.1 ∧ fA [4, 15, 16, 18, 24, 64, 65, 68, 69, 70, 71, 72, 74, 75, 76, 77, 78, 79, 80, 82] ar u.2.2 ∧ (sW u.2.2) ∧ True) (enM dC dI h ad cA) (aM h ad sz)) 0 0 (aM h ad sz) := by
  refine Met.ofW (cc := cX12_step) (maxL := 2) (ret := none) (by decide) rfl ?_
  intro p e s m args below meth c s₁ B hml hv
  obtain ⟨rfl, hsz, hP, hK⟩ := hv
  have hx := B.exec
  have hb := B.bytes
  have hr := B.returns
  have hts := atoms_spec (ws := (.code yX12_step cX12_step 2 none :: lw_good)) B.pre
  have htg : ∀ w ∈ lw_good, w.before _ s = true := fun w hw => hts w (List.mem_cons_of_mem _ hw)
  have hown : s.vm.findClass RX12 = some m.cls := findClass_of_methodNamed B.named
  have hlocks := B.notSynchronized
  subst hsz
  have hS : va_S (aM h ad s.heap.size) s.heap s.heap [] := va_S.rf
  have hl := lv_entry ([.ref h]) (n := 2) (Nat.le_of_ble_eq_true rfl)
  rw [lg_entry_eq]
  generalize (lg_sl ([.ref h]) ++ List.replicate (2 - (lg_sl ([.ref h])).length) Slot.unset).toArray = ls at hl ⊢
  have hl : lv_has ls 2 [(0, .ref h)] := hl
  refine lv_iconst (v := 0) hx hb dX12_step_0 (by decide) ?_
  refine lv_istore_n (lv' := [(1, .int 0), (0, .ref h)]) hx hb dX12_step_1 rfl hl (by decide) rfl (fun ls hl => ?_)
  refine my_cut (P := fun R9 a9 Q9 => ∀ (n_6 : Nat) (x_1 : Int32) (ar_2 : Nat → Nat → Int32) (H : Heap) (locs : List Loc) (ls : Array Slot), 20 - x_1.toInt < (n_6 : Int) → (0 ≤ x_1.toInt ∧ x_1.toInt ≤ 20) → rA ar_2 → fA [77] ar ar_2 → sW ar_2 → vM fv ar_2 → va_P (dC, dI) vwCl (wsM h ad cA fv wd ar_2) H → va_S (aM h ad s.heap.size) s.heap H locs → lv_has ls 2 [(0, .ref h), (1, .int x_1)] → W p l e R9 s m a9 below meth c H locs 0 0 Q9 (F0 m 2 ls [])) ?_ (fun hj_8 => ?_)
  · intro n_6
    induction n_6 with
    | zero => intro x_1 ar_2 H locs ls fu_7 i_x_1 hA_ar_2 fa_3 hp_4 hp_5; exfalso; omega
    | succ n_6 ih_6 =>
      intro x_1 ar_2 H locs ls fu_7 i_x_1 hA_ar_2 fa_3 hp_4 hp_5 hP hS hl
      refine lv_iload_n hx hb dX12_step_2 rfl (lv_at hl 1 rfl) ?_
      refine lv_aload_n hx hb dX12_step_3 rfl (lv_at hl 0 rfl) ?_
      refine gM_34 hx hb htg hown hK hP dX12_step_4 ?_
      have i_9 : 0 ≤ (fv 34).toInt ∧ (fv 34).toInt ≤ 20 := hF_fv 34
      refine lv_icmp_ge (tgt := 36) hx hb dX12_step_7 (by decide) (fun c_10 => ?_) (fun c_10 => ?_)
      · skip
        refine lv_iconst (v := 0) hx hb dX12_step_36 (by decide) ?_
        refine lv_istore_n (lv' := [(1, .int 0), (0, .ref h)]) hx hb dX12_step_37 rfl hl (by decide) rfl (fun ls hl => ?_)
        refine my_cut (P := fun R9 a9 Q9 => ∀ (n_34 : Nat) (x_26 : Int32) (fv_27 : Nat → Int32) (ar_29 : Nat → Nat → Int32) (wd_31 : Int64) (H : Heap) (locs : List Loc) (ls : Array Slot), 40 - x_26.toInt < (n_34 : Int) → (0 ≤ x_26.toInt ∧ x_26.toInt ≤ 40) → rF fv_27 → fM [8] fv fv_27 → rA ar_29 → fA [4, 15, 18, 68, 69, 70, 71, 72, 74, 82] ar_2 ar_29 → sW ar_29 → vM fv_27 ar_29 → va_P (dC, dI) vwCl (wsM h ad cA fv_27 wd_31 ar_29) H → va_S (aM h ad s.heap.size) s.heap H locs → lv_has ls 2 [(0, .ref h), (1, .int x_26)] → W p l e R9 s m a9 below meth c H locs 0 0 Q9 (F0 m 38 ls [])) ?_ (fun hj_36 => ?_)
        · intro n_34
          induction n_34 with
          | zero => intro x_26 fv_27 ar_29 wd_31 H locs ls fu_35 i_x_26 hF_fv_27 fr_28 hA_ar_29 fa_30 hp_32 hp_33; exfalso; omega
          | succ n_34 ih_34 =>
            intro x_26 fv_27 ar_29 wd_31 H locs ls fu_35 i_x_26 hF_fv_27 fr_28 hA_ar_29 fa_30 hp_32 hp_33 hP hS hl
            refine lv_iload_n hx hb dX12_step_38 rfl (lv_at hl 1 rfl) ?_
            refine lv_aload_n hx hb dX12_step_39 rfl (lv_at hl 0 rfl) ?_
            refine gM_32 hx hb htg hown hK hP dX12_step_40 ?_
            refine my_ti (y := fv 32) ((fr_28 32 rfl)) ?_
            have i_37 : 0 ≤ (fv 32).toInt ∧ (fv 32).toInt ≤ 40 := hF_fv 32
            refine lv_icmp_ge (tgt := 116) hx hb dX12_step_43 (by decide) (fun c_38 => ?_) (fun c_38 => ?_)
            · skip
              refine lv_iconst (v := 0) hx hb dX12_step_116 (by decide) ?_
              refine lv_istore_n (lv' := [(1, .int 0), (0, .ref h)]) hx hb dX12_step_117 rfl hl (by decide) rfl (fun ls hl => ?_)
              refine my_cut (P := fun R9 a9 Q9 => ∀ (n_85 : Nat) (x_77 : Int32) (fv_78 : Nat → Int32) (ar_80 : Nat → Nat → Int32) (wd_82 : Int64) (H : Heap) (locs : List Loc) (ls : Array Slot), 40 - x_77.toInt < (n_85 : Int) → (0 ≤ x_77.toInt ∧ x_77.toInt ≤ 40) → rF fv_78 → fM [8] fv_27 fv_78 → rA ar_80 → fA [4, 15, 18, 68, 69, 70, 71, 72, 74, 82] ar_29 ar_80 → sW ar_80 → vM fv_78 ar_80 → va_P (dC, dI) vwCl (wsM h ad cA fv_78 wd_82 ar_80) H → va_S (aM h ad s.heap.size) s.heap H locs → lv_has ls 2 [(0, .ref h), (1, .int x_77)] → W p l e R9 s m a9 below meth c H locs 0 0 Q9 (F0 m 118 ls [])) ?_ (fun hj_87 => ?_)
              · intro n_85
                induction n_85 with
                | zero => intro x_77 fv_78 ar_80 wd_82 H locs ls fu_86 i_x_77 hF_fv_78 fr_79 hA_ar_80 fa_81 hp_83 hp_84; exfalso; omega
                | succ n_85 ih_85 =>
                  intro x_77 fv_78 ar_80 wd_82 H locs ls fu_86 i_x_77 hF_fv_78 fr_79 hA_ar_80 fa_81 hp_83 hp_84 hP hS hl
                  refine lv_iload_n hx hb dX12_step_118 rfl (lv_at hl 1 rfl) ?_
                  refine lv_aload_n hx hb dX12_step_119 rfl (lv_at hl 0 rfl) ?_
                  refine gM_32 hx hb htg hown hK hP dX12_step_120 ?_
                  refine my_ti (y := fv 32) ((fr_79 32 rfl).trans ((fr_28 32 rfl))) ?_
                  refine lv_icmp_ge (tgt := 204) hx hb dX12_step_123 (by decide) (fun c_88 => ?_) (fun c_88 => ?_)
                  · skip
                    refine lv_iconst (v := 0) hx hb dX12_step_204 (by decide) ?_
                    refine lv_istore_n (lv' := [(1, .int 0), (0, .ref h)]) hx hb dX12_step_205 rfl hl (by decide) rfl (fun ls hl => ?_)
                    refine my_cut (P := fun R9 a9 Q9 => ∀ (n_156 : Nat) (x_148 : Int32) (fv_149 : Nat → Int32) (ar_151 : Nat → Nat → Int32) (wd_153 : Int64) (H : Heap) (locs : List Loc) (ls : Array Slot), 80 - x_148.toInt < (n_156 : Int) → (0 ≤ x_148.toInt ∧ x_148.toInt ≤ 80) → rF fv_149 → fM [8, 36, 66] fv_78 fv_149 → rA ar_151 → fA [4, 16, 24, 64, 65, 68, 75, 76, 77, 78, 79, 80] ar_80 ar_151 → sW ar_151 → vM fv_149 ar_151 → va_P (dC, dI) vwCl (wsM h ad cA fv_149 wd_153 ar_151) H → va_S (aM h ad s.heap.size) s.heap H locs → lv_has ls 2 [(0, .ref h), (1, .int x_148)] → W p l e R9 s m a9 below meth c H locs 0 0 Q9 (F0 m 206 ls [])) ?_ (fun hj_158 => ?_)
                    · intro n_156
                      induction n_156 with
                      | zero => intro x_148 fv_149 ar_151 wd_153 H locs ls fu_157 i_x_148 hF_fv_149 fr_150 hA_ar_151 fa_152 hp_154 hp_155; exfalso; omega
                      | succ n_156 ih_156 =>
                        intro x_148 fv_149 ar_151 wd_153 H locs ls fu_157 i_x_148 hF_fv_149 fr_150 hA_ar_151 fa_152 hp_154 hp_155 hP hS hl
                        refine lv_iload_n hx hb dX12_step_206 rfl (lv_at hl 1 rfl) ?_
                        refine lv_aload_n hx hb dX12_step_207 rfl (lv_at hl 0 rfl) ?_
                        refine gM_35 hx hb htg hown hK hP dX12_step_208 ?_
                        refine my_ti (y := fv 35) ((fr_150 35 rfl).trans ((fr_79 35 rfl).trans ((fr_28 35 rfl)))) ?_
                        have i_159 : 0 ≤ (fv 35).toInt ∧ (fv 35).toInt ≤ 80 := hF_fv 35
                        refine lv_icmp_ge (tgt := 246) hx hb dX12_step_211 (by decide) (fun c_160 => ?_) (fun c_160 => ?_)
                        · skip
                          refine lv_iconst (v := 0) hx hb dX12_step_246 (by decide) ?_
                          refine lv_istore_n (lv' := [(1, .int 0), (0, .ref h)]) hx hb dX12_step_247 rfl hl (by decide) rfl (fun ls hl => ?_)
                          refine my_cut (P := fun R9 a9 Q9 => ∀ (n_203 : Nat) (x_195 : Int32) (fv_196 : Nat → Int32) (ar_198 : Nat → Nat → Int32) (wd_200 : Int64) (H : Heap) (locs : List Loc) (ls : Array Slot), 40 - x_195.toInt < (n_203 : Int) → (0 ≤ x_195.toInt ∧ x_195.toInt ≤ 40) → rF fv_196 → fM [8] fv_149 fv_196 → rA ar_198 → fA [4, 15, 18, 68, 69, 70, 71, 72, 74, 82] ar_151 ar_198 → sW ar_198 → vM fv_196 ar_198 → va_P (dC, dI) vwCl (wsM h ad cA fv_196 wd_200 ar_198) H → va_S (aM h ad s.heap.size) s.heap H locs → lv_has ls 2 [(0, .ref h), (1, .int x_195)] → W p l e R9 s m a9 below meth c H locs 0 0 Q9 (F0 m 248 ls [])) ?_ (fun hj_205 => ?_)
                          · intro n_203
                            induction n_203 with
                            | zero => intro x_195 fv_196 ar_198 wd_200 H locs ls fu_204 i_x_195 hF_fv_196 fr_197 hA_ar_198 fa_199 hp_201 hp_202; exfalso; omega
                            | succ n_203 ih_203 =>
                              intro x_195 fv_196 ar_198 wd_200 H locs ls fu_204 i_x_195 hF_fv_196 fr_197 hA_ar_198 fa_199 hp_201 hp_202 hP hS hl
                              refine lv_iload_n hx hb dX12_step_248 rfl (lv_at hl 1 rfl) ?_
                              refine lv_aload_n hx hb dX12_step_249 rfl (lv_at hl 0 rfl) ?_
                              refine gM_32 hx hb htg hown hK hP dX12_step_250 ?_
                              refine my_ti (y := fv 32) ((fr_197 32 rfl).trans ((fr_150 32 rfl).trans ((fr_79 32 rfl).trans ((fr_28 32 rfl))))) ?_
                              refine lv_icmp_ge (tgt := 304) hx hb dX12_step_253 (by decide) (fun c_206 => ?_) (fun c_206 => ?_)
                              · skip
                                exact W.vret hx hb hr (fun t ht hW => ⟨⟨(fv_196, wd_200, ar_198), rfl, ⟨hF_fv_196, hA_ar_198, (fM_call (fM_call (fM_call (fM_call (fM_rf [8, 36, 66] _) fr_28 (by decide)) fr_79 (by decide)) fr_150 (by decide)) fr_197 (by decide)), (fA_call (fA_call (fA_call (fA_call (fA_call (fA_rf [4, 15, 16, 18, 24, 64, 65, 68, 69, 70, 71, 72, 74, 75, 76, 77, 78, 79, 80, 82] _) fa_3 (by decide)) fa_30 (by decide)) fa_81 (by decide)) fa_152 (by decide)) fa_199 (by decide)), hp_201, trivial⟩, ⟨by rw [ht]; exact hP, va_K.moved hW.alike hK⟩⟩, hS.F ht⟩) hS.2.2 dX12_step_304
                              · skip
                                have i_207 : 0 ≤ x_195.toInt ∧ x_195.toInt ≤ 39 := iv_lt1 i_x_195 i_37 (Int32.not_le.mp c_206)
                                have i_208 : 1 ≤ (fv 32).toInt ∧ (fv 32).toInt ≤ 40 := iv_lt2 i_x_195 i_37 (Int32.not_le.mp c_206)
                                refine lv_aload_n hx hb dX12_step_256 rfl (lv_at hl 0 rfl) ?_
                                refine gM_68 hx hb htg hown hK hP dX12_step_257 ?_
                                refine lv_iload_n hx hb dX12_step_260 rfl (lv_at hl 1 rfl) ?_
                                refine lM_68 hx hb hK hP (iv_in i_207 (by decide) (by decide)) dX12_step_261 (fun v_209 ev_209 => ?_)
                                refine lv_iconst (v := 2) hx hb dX12_step_262 (by decide) ?_
                                refine my_cut (P := fun R9 a9 Q9 => ∀ (fv_229 : Nat → Int32) (ar_231 : Nat → Nat → Int32) (wd_233 : Int64) (H : Heap) (locs : List Loc) (ls : Array Slot), rF fv_229 → fM [8] fv_196 fv_229 → rA ar_231 → fA [4, 15, 18, 68, 69, 70, 71, 72, 74, 82] ar_198 ar_231 → sW ar_231 → vM fv_229 ar_231 → va_P (dC, dI) vwCl (wsM h ad cA fv_229 wd_233 ar_231) H → va_S (aM h ad s.heap.size) s.heap H locs → lv_has ls 2 [(0, .ref h), (1, .int x_195)] → W p l e R9 s m a9 below meth c H locs 0 0 Q9 (F0 m 298 ls [])) ?_ (fun hj_236 => ?_)
                                · intro fv_229 ar_231 wd_233 H locs ls hF_fv_229 fr_230 hA_ar_231 fa_232 hp_234 hp_235 hP hS hl
                                  obtain ⟨v_237, ev_237⟩ : ∃ z : Int32, z = x_195 + 1 := ⟨_, rfl⟩
                                  refine lv_iinc (v := v_237) (lv' := [(1, .int v_237), (0, .ref h)]) hx hb dX12_step_298 hl (k := 1) rfl (by rw [ev_237]; rfl) (by decide) rfl (fun ls hl => ?_)
                                  have t_238 : v_237.toInt = x_195.toInt + 1 ∧ 1 ≤ v_237.toInt ∧ v_237.toInt ≤ 40 := iv_addc ev_237 i_207 (by decide) (by decide) (by decide)
                                  refine lv_goto (tgt := 248) hx hb dX12_step_301 (by decide) ?_
                                  exact ih_203 v_237 fv_229 ar_231 wd_233 _ _ ls (by omega) (iv_w t_238.2 (by decide) (by decide)) hF_fv_229 (fM_call (fM_call (fM_rf [8] _) fr_197 (by decide)) fr_230 (by decide)) hA_ar_231 (fA_call (fA_call (fA_rf [4, 15, 18, 68, 69, 70, 71, 72, 74, 82] _) fa_199 (by decide)) fa_232 (by decide)) hp_234 hp_235 hP hS (lv_sub hl [1, 0] rfl)
                                · skip
                                  refine lv_icmp_ne (tgt := 298) hx hb dX12_step_263 (by decide) (fun c_210 => ?_) (fun c_210 => ?_)
                                  · skip
                                    exact hj_236 fv_196 ar_198 wd_200 _ _ ls hF_fv_196 (fM_rf [8] _) hA_ar_198 (fA_rf [4, 15, 18, 68, 69, 70, 71, 72, 74, 82] _) hp_201 hp_202 hP hS (lv_sub hl [0, 1] rfl)
                                  · skip
                                    have i_211 : 2 ≤ v_209.toInt ∧ v_209.toInt ≤ 2 := iv_eq1 (⟨by decide, by decide⟩ : (2 : Int) ≤ (2 : Int32).toInt ∧ (2 : Int32).toInt ≤ 2) c_210
                                    refine lv_aload_n hx hb dX12_step_266 rfl (lv_at hl 0 rfl) ?_
                                    refine gM_28 hx hb htg hown hK hP dX12_step_267 ?_
                                    refine lv_aload_n hx hb dX12_step_270 rfl (lv_at hl 0 rfl) ?_
                                    refine gM_71 hx hb htg hown hK hP dX12_step_271 ?_
                                    refine lv_iload_n hx hb dX12_step_274 rfl (lv_at hl 1 rfl) ?_
                                    refine lM_71 hx hb hK hP (iv_in i_207 (by decide) (by decide)) dX12_step_275 (fun v_212 ev_212 => ?_)
                                    have i_213 : (-1) ≤ v_212.toInt ∧ v_212.toInt ≤ 79 := ev_212 ▸ hA_ar_198 71 _
                                    have i_214 : 0 ≤ v_212.toInt ∧ v_212.toInt ≤ 79 := ⟨by have h9 := hp_201 x_195.toNatClampNeg; rw [← ev_209, ← ev_212] at h9; exact h9 (Int.le_trans (by decide) (i_211).1) (Int.le_trans (i_211).2 (by decide)), (i_213).2⟩
                                    refine lM_28 hx hb hK hP (iv_in i_214 (by decide) (by decide)) dX12_step_276 (fun v_215 ev_215 => ?_)
                                    refine lv_aload_n hx hb dX12_step_277 rfl (lv_at hl 0 rfl) ?_
                                    refine gM_85 hx hb htg hown hK hP dX12_step_278 ?_
                                    refine my_ti (y := fv 85) ((fr_197 85 rfl).trans ((fr_150 85 rfl).trans ((fr_79 85 rfl).trans ((fr_28 85 rfl))))) ?_
                                    have i_216 : 0 ≤ (fv 85).toInt ∧ (fv 85).toInt ≤ 840 := hF_fv 85
                                    refine lv_icmp_eq (tgt := 287) hx hb dX12_step_281 (by decide) (fun c_217 => ?_) (fun c_217 => ?_)
                                    · skip
                                      have i_218 : 0 ≤ v_215.toInt ∧ v_215.toInt ≤ 840 := iv_eq1 i_216 c_217
                                      refine lv_aload_n hx hb dX12_step_287 rfl (lv_at hl 0 rfl) ?_
                                      refine lv_iload_n hx hb dX12_step_288 rfl (lv_at hl 1 rfl) ?_
                                      refine lv_aload_n hx hb dX12_step_289 rfl (lv_at hl 0 rfl) ?_
                                      refine gM_85 hx hb htg hown hK hP dX12_step_290 ?_
                                      refine my_ti (y := fv 85) ((fr_197 85 rfl).trans ((fr_150 85 rfl).trans ((fr_79 85 rfl).trans ((fr_28 85 rfl))))) ?_
                                      refine lv_iconst (v := 1) hx hb dX12_step_293 (by decide) ?_
                                      refine lv_iadd hx hb dX12_step_294 ?_
                                      refine lv_topi (fun v_219 ev_219 => ?_)
                                      have t_220 : v_219.toInt = (fv 85).toInt + 1 ∧ 1 ≤ v_219.toInt ∧ v_219.toInt ≤ 841 := iv_addc ev_219 i_216 (by decide) (by decide) (by decide)
                                      refine va_callv (va_runV (As := [.int x_195, .int v_219]) (rest := []) ⟨hx, hb, hml, hown, hts⟩ (m_choose l dC dI H.size h ad cA hd fv_196 wd_200 ar_198 hF_fv_196 hA_ar_198 x_195 v_219 i_207 hp_201) (cwV 2 hts (gV kw_8_188 kw_8_190 kw_p_87 kw_1_15 kw_8_191) rfl rfl rfl (by decide +kernel) ⟨Nat.le_of_ble_eq_true rfl, Nat.le_of_ble_eq_true rfl⟩) ⟨fun a U g mk q => ⟨q.1, q.2.1, q.2.2.1, va_K.moved (u := U) (U := U.calling g mk a) (Vm.Alike.refl U.vm) q.2.2.2⟩, va_recv hK hP (ci := 12) (q0 := 0) rfl rfl, fun U hU hW => ⟨rfl, by rw [hU], by rw [hU]; exact hP, va_K.moved hW.alike hK⟩⟩ rfl rfl hl.1 rfl (lv_room (Nat.le_of_ble_eq_true rfl)) dX12_step_295 ⟨Nat.le_of_ble_eq_true rfl, Nat.le_of_ble_eq_true rfl⟩) hS (fun q _ h9 => aM_up hS q h9) (aM_up hS) (fun u t H1 locs ht _ hw hB _ hk1 hS => ?_)
                                      obtain ⟨fv_224, wd_225, ar_226⟩ := u
                                      obtain ⟨hF_fv_224, hA_ar_226, fr_227, fa_228, p_223, -⟩ := hw
                                      have hP : va_P (dC, dI) vwCl (wsM h ad cA fv_224 wd_225 ar_226) H1 := by have h9 := hB.1; rw [ht] at h9; exact h9
                                      have fr_227 : fM [8] fv_196 fv_224 := fr_227
                                      have fa_228 : fA [4, 15, 18, 68, 69, 70, 71, 72, 74, 82] ar_198 ar_226 := fa_228
                                      have p_223 : sW ar_226 := p_223
                                      generalize H1 = H at hP hS ⊢
                                      exact hj_236 fv_224 ar_226 wd_225 _ _ ls hF_fv_224 (fM_call (fM_rf [8] _) fr_227 (by decide)) hA_ar_226 (fA_call (fA_rf [4, 15, 18, 68, 69, 70, 71, 72, 74, 82] _) fa_228 (by decide)) p_223 (vM_fr hp_202 (fM_call (fM_rf [8] _) fr_227 (by decide)) (fA_call (fA_rf [4, 15, 18, 68, 69, 70, 71, 72, 74, 82] _) fa_228 (by decide)) rfl rfl rfl rfl rfl) hP hS (lv_sub hl [0, 1] rfl)
                                    · skip
                                      refine lv_goto (tgt := 298) hx hb dX12_step_284 (by decide) ?_
                                      exact hj_236 fv_196 ar_198 wd_200 _ _ ls hF_fv_196 (fM_rf [8] _) hA_ar_198 (fA_rf [4, 15, 18, 68, 69, 70, 71, 72, 74, 82] _) hp_201 hp_202 hP hS (lv_sub hl [0, 1] rfl)
                          · skip
                            have z_240 : (0 : Int32).toInt = 0 := by decide
                            exact hj_205 41 0 fv_149 ar_151 wd_153 _ _ ls (by first | decide | omega) (iv_w (⟨by decide, by decide⟩ : (0 : Int) ≤ (0 : Int32).toInt ∧ (0 : Int32).toInt ≤ 0) (by decide) (by decide)) hF_fv_149 (fM_rf [8] _) hA_ar_151 (fA_rf [4, 15, 18, 68, 69, 70, 71, 72, 74, 82] _) hp_154 hp_155 hP hS (lv_sub hl [1, 0] rfl)
                        · skip
                          have i_161 : 0 ≤ x_148.toInt ∧ x_148.toInt ≤ 79 := iv_lt1 i_x_148 i_159 (Int32.not_le.mp c_160)
                          have i_162 : 1 ≤ (fv 35).toInt ∧ (fv 35).toInt ≤ 80 := iv_lt2 i_x_148 i_159 (Int32.not_le.mp c_160)
                          refine lv_aload_n hx hb dX12_step_214 rfl (lv_at hl 0 rfl) ?_
                          refine gM_28 hx hb htg hown hK hP dX12_step_215 ?_
                          refine lv_iload_n hx hb dX12_step_218 rfl (lv_at hl 1 rfl) ?_
                          refine lM_28 hx hb hK hP (iv_in i_161 (by decide) (by decide)) dX12_step_219 (fun v_163 ev_163 => ?_)
                          refine lv_aload_n hx hb dX12_step_220 rfl (lv_at hl 0 rfl) ?_
                          refine gM_85 hx hb htg hown hK hP dX12_step_221 ?_
                          refine my_ti (y := fv 85) ((fr_150 85 rfl).trans ((fr_79 85 rfl).trans ((fr_28 85 rfl)))) ?_
                          have i_164 : 0 ≤ (fv 85).toInt ∧ (fv 85).toInt ≤ 840 := hF_fv 85
                          refine my_cut (P := fun R9 a9 Q9 => ∀ (fv_184 : Nat → Int32) (ar_186 : Nat → Nat → Int32) (wd_188 : Int64) (H : Heap) (locs : List Loc) (ls : Array Slot), rF fv_184 → fM [8, 36, 66] fv_149 fv_184 → rA ar_186 → fA [4, 16, 24, 64, 65, 68, 75, 76, 77, 78, 79, 80] ar_151 ar_186 → sW ar_186 → vM fv_184 ar_186 → va_P (dC, dI) vwCl (wsM h ad cA fv_184 wd_188 ar_186) H → va_S (aM h ad s.heap.size) s.heap H locs → lv_has ls 2 [(0, .ref h), (1, .int x_148)] → W p l e R9 s m a9 below meth c H locs 0 0 Q9 (F0 m 240 ls [])) ?_ (fun hj_191 => ?_)
                          · intro fv_184 ar_186 wd_188 H locs ls hF_fv_184 fr_185 hA_ar_186 fa_187 hp_189 hp_190 hP hS hl
                            obtain ⟨v_192, ev_192⟩ : ∃ z : Int32, z = x_148 + 1 := ⟨_, rfl⟩
                            refine lv_iinc (v := v_192) (lv' := [(1, .int v_192), (0, .ref h)]) hx hb dX12_step_240 hl (k := 1) rfl (by rw [ev_192]; rfl) (by decide) rfl (fun ls hl => ?_)
                            have t_193 : v_192.toInt = x_148.toInt + 1 ∧ 1 ≤ v_192.toInt ∧ v_192.toInt ≤ 80 := iv_addc ev_192 i_161 (by decide) (by decide) (by decide)
                            refine lv_goto (tgt := 206) hx hb dX12_step_243 (by decide) ?_
                            exact ih_156 v_192 fv_184 ar_186 wd_188 _ _ ls (by omega) (iv_w t_193.2 (by decide) (by decide)) hF_fv_184 (fM_call (fM_call (fM_rf [8, 36, 66] _) fr_150 (by decide)) fr_185 (by decide)) hA_ar_186 (fA_call (fA_call (fA_rf [4, 16, 24, 64, 65, 68, 75, 76, 77, 78, 79, 80] _) fa_152 (by decide)) fa_187 (by decide)) hp_189 hp_190 hP hS (lv_sub hl [1, 0] rfl)
                          · skip
                            refine lv_icmp_ne (tgt := 240) hx hb dX12_step_224 (by decide) (fun c_165 => ?_) (fun c_165 => ?_)
                            · skip
                              exact hj_191 fv_149 ar_151 wd_153 _ _ ls hF_fv_149 (fM_rf [8, 36, 66] _) hA_ar_151 (fA_rf [4, 16, 24, 64, 65, 68, 75, 76, 77, 78, 79, 80] _) hp_154 hp_155 hP hS (lv_sub hl [0, 1] rfl)
                            · skip
                              have i_166 : 0 ≤ v_163.toInt ∧ v_163.toInt ≤ 840 := iv_eq1 i_164 c_165
                              refine lv_aload_n hx hb dX12_step_227 rfl (lv_at hl 0 rfl) ?_
                              refine lv_iload_n hx hb dX12_step_228 rfl (lv_at hl 1 rfl) ?_
                              refine va_calli (va_runV (As := [.int x_148]) (rest := []) ⟨hx, hb, hml, hown, hts⟩ (m_runsToday l dC dI H.size h ad cA hd fv_149 wd_153 ar_151 hF_fv_149 hA_ar_151 x_148 i_161) (cwV 1 hts (gV kw_8_180 kw_8_182 kw_p_85 kw_1_15 kw_8_183) rfl rfl rfl (by decide +kernel) ⟨Nat.le_of_ble_eq_true rfl, Nat.le_of_ble_eq_true rfl⟩) ⟨fun a U g mk q => ⟨q.1, q.2.1, q.2.2.1, va_K.moved (u := U) (U := U.calling g mk a) (Vm.Alike.refl U.vm) q.2.2.2⟩, va_recv hK hP (ci := 12) (q0 := 0) rfl rfl, fun U hU hW => ⟨rfl, by rw [hU], by rw [hU]; exact hP, va_K.moved hW.alike hK⟩⟩ rfl rfl hl.1 rfl (lv_room (Nat.le_of_ble_eq_true rfl)) dX12_step_229 ⟨Nat.le_of_ble_eq_true rfl, Nat.le_of_ble_eq_true rfl⟩) hS (fun q _ h9 => aM_up hS q h9) (aM_up hS) (fun r_167 u t H1 locs ht _ hw hB _ hk1 hS => ?_)
                              obtain ⟨fv_169, wd_170, ar_171⟩ := u
                              obtain ⟨hF_fv_169, hA_ar_171, fr_172, fa_173, p_168, -⟩ := hw
                              have hP : va_P (dC, dI) vwCl (wsM h ad cA fv_169 wd_170 ar_171) H1 := by have h9 := hB.1; rw [ht] at h9; exact h9
                              have fr_172 : fM [] fv_149 fv_169 := fr_172
                              have fa_173 : fA [] ar_151 ar_171 := fa_173
                              generalize H1 = H at hP hS ⊢
                              refine lv_if_eq (tgt := 240) hx hb dX12_step_232 (by decide) (fun c_174 => ?_) (fun c_174 => ?_)
                              · skip
                                have i_175 : 0 ≤ r_167.toInt ∧ r_167.toInt ≤ 0 := iv_eq1 (⟨by decide, by decide⟩ : (0 : Int) ≤ (0 : Int32).toInt ∧ (0 : Int32).toInt ≤ 0) c_174
                                exact hj_191 fv_169 ar_171 wd_170 _ _ ls hF_fv_169 (fM_call (fM_rf [8, 36, 66] _) fr_172 (by decide)) hA_ar_171 (fA_call (fA_rf [4, 16, 24, 64, 65, 68, 75, 76, 77, 78, 79, 80] _) fa_173 (by decide)) (sW_fr hp_154 (fA_call (fA_rf [] _) fa_173 (by decide)) rfl rfl) (vM_fr hp_155 (fM_call (fM_rf [] _) fr_172 (by decide)) (fA_call (fA_rf [] _) fa_173 (by decide)) rfl rfl rfl rfl rfl) hP hS (lv_sub hl [0, 1] rfl)
                              · skip
                                have i_176 : 1 ≤ r_167.toInt ∧ r_167.toInt ≤ 1 := iv_nel p_168 (by decide) c_174
                                refine lv_aload_n hx hb dX12_step_235 rfl (lv_at hl 0 rfl) ?_
                                refine lv_iload_n hx hb dX12_step_236 rfl (lv_at hl 1 rfl) ?_
                                refine va_callv (va_runV (As := [.int x_148]) (rest := []) ⟨hx, hb, hml, hown, hts⟩ (m_leave l dC dI H.size h ad cA hd fv_169 wd_170 ar_171 hF_fv_169 hA_ar_171 x_148 i_161 (sW_fr hp_154 (fA_call (fA_rf [] _) fa_173 (by decide)) rfl rfl) (vM_fr hp_155 (fM_call (fM_rf [] _) fr_172 (by decide)) (fA_call (fA_rf [] _) fa_173 (by decide)) rfl rfl rfl rfl rfl)) (cwV 1 hts (gV kw_8_224 kw_8_226 kw_p_96 kw_1_15 kw_8_227) rfl rfl rfl (by decide +kernel) ⟨Nat.le_of_ble_eq_true rfl, Nat.le_of_ble_eq_true rfl⟩) ⟨fun a U g mk q => ⟨q.1, q.2.1, q.2.2.1, va_K.moved (u := U) (U := U.calling g mk a) (Vm.Alike.refl U.vm) q.2.2.2⟩, va_recv hK hP (ci := 12) (q0 := 0) rfl rfl, fun U hU hW => ⟨rfl, by rw [hU], by rw [hU]; exact hP, va_K.moved hW.alike hK⟩⟩ rfl rfl hl.1 rfl (lv_room (Nat.le_of_ble_eq_true rfl)) dX12_step_237 ⟨Nat.le_of_ble_eq_true rfl, Nat.le_of_ble_eq_true rfl⟩) hS (fun q _ h9 => aM_up hS q h9) (aM_up hS) (fun u t H1 locs ht _ hw hB _ hk1 hS => ?_)
                                obtain ⟨fv_179, wd_180, ar_181⟩ := u
                                obtain ⟨hF_fv_179, hA_ar_181, fr_182, fa_183, p_178, -⟩ := hw
                                have hP : va_P (dC, dI) vwCl (wsM h ad cA fv_179 wd_180 ar_181) H1 := by have h9 := hB.1; rw [ht] at h9; exact h9
                                have fr_182 : fM [8, 36, 66] fv_169 fv_179 := fr_182
                                have fa_183 : fA [4, 16, 24, 64, 65, 68, 75, 76, 77, 78, 79, 80] ar_171 ar_181 := fa_183
                                have p_178 : sW ar_181 := p_178
                                generalize H1 = H at hP hS ⊢
                                exact hj_191 fv_179 ar_181 wd_180 _ _ ls hF_fv_179 (fM_call (fM_call (fM_rf [8, 36, 66] _) fr_172 (by decide)) fr_182 (by decide)) hA_ar_181 (fA_call (fA_call (fA_rf [4, 16, 24, 64, 65, 68, 75, 76, 77, 78, 79, 80] _) fa_173 (by decide)) fa_183 (by decide)) p_178 (vM_fr hp_155 (fM_call (fM_call (fM_rf [8, 36, 66] _) fr_172 (by decide)) fr_182 (by decide)) (fA_call (fA_call (fA_rf [4, 16, 24, 64, 65, 68, 75, 76, 77, 78, 79, 80] _) fa_173 (by decide)) fa_183 (by decide)) rfl rfl rfl rfl rfl) hP hS (lv_sub hl [0, 1] rfl)
                    · skip
                      have z_241 : (0 : Int32).toInt = 0 := by decide
                      exact hj_158 81 0 fv_78 ar_80 wd_82 _ _ ls (by first | decide | omega) (iv_w (⟨by decide, by decide⟩ : (0 : Int) ≤ (0 : Int32).toInt ∧ (0 : Int32).toInt ≤ 0) (by decide) (by decide)) hF_fv_78 (fM_rf [8, 36, 66] _) hA_ar_80 (fA_rf [4, 16, 24, 64, 65, 68, 75, 76, 77, 78, 79, 80] _) hp_83 hp_84 hP hS (lv_sub hl [1, 0] rfl)
                  · skip
                    have i_89 : 0 ≤ x_77.toInt ∧ x_77.toInt ≤ 39 := iv_lt1 i_x_77 i_37 (Int32.not_le.mp c_88)
                    have i_90 : 1 ≤ (fv 32).toInt ∧ (fv 32).toInt ≤ 40 := iv_lt2 i_x_77 i_37 (Int32.not_le.mp c_88)
                    refine lv_aload_n hx hb dX12_step_126 rfl (lv_at hl 0 rfl) ?_
                    refine gM_68 hx hb htg hown hK hP dX12_step_127 ?_
                    refine lv_iload_n hx hb dX12_step_130 rfl (lv_at hl 1 rfl) ?_
                    refine lM_68 hx hb hK hP (iv_in i_89 (by decide) (by decide)) dX12_step_131 (fun v_91 ev_91 => ?_)
                    refine my_cut (P := fun R9 a9 Q9 => ∀ (fv_137 : Nat → Int32) (ar_139 : Nat → Nat → Int32) (wd_141 : Int64) (H : Heap) (locs : List Loc) (ls : Array Slot), rF fv_137 → fM [8] fv_78 fv_137 → rA ar_139 → fA [4, 15, 18, 68, 69, 70, 71, 72, 74, 82] ar_80 ar_139 → sW ar_139 → vM fv_137 ar_139 → va_P (dC, dI) vwCl (wsM h ad cA fv_137 wd_141 ar_139) H → va_S (aM h ad s.heap.size) s.heap H locs → lv_has ls 2 [(0, .ref h), (1, .int x_77)] → W p l e R9 s m a9 below meth c H locs 0 0 Q9 (F0 m 198 ls [])) ?_ (fun hj_144 => ?_)
                    · intro fv_137 ar_139 wd_141 H locs ls hF_fv_137 fr_138 hA_ar_139 fa_140 hp_142 hp_143 hP hS hl
                      obtain ⟨v_145, ev_145⟩ : ∃ z : Int32, z = x_77 + 1 := ⟨_, rfl⟩
                      refine lv_iinc (v := v_145) (lv' := [(1, .int v_145), (0, .ref h)]) hx hb dX12_step_198 hl (k := 1) rfl (by rw [ev_145]; rfl) (by decide) rfl (fun ls hl => ?_)
                      have t_146 : v_145.toInt = x_77.toInt + 1 ∧ 1 ≤ v_145.toInt ∧ v_145.toInt ≤ 40 := iv_addc ev_145 i_89 (by decide) (by decide) (by decide)
                      refine lv_goto (tgt := 118) hx hb dX12_step_201 (by decide) ?_
                      exact ih_85 v_145 fv_137 ar_139 wd_141 _ _ ls (by omega) (iv_w t_146.2 (by decide) (by decide)) hF_fv_137 (fM_call (fM_call (fM_rf [8] _) fr_79 (by decide)) fr_138 (by decide)) hA_ar_139 (fA_call (fA_call (fA_rf [4, 15, 18, 68, 69, 70, 71, 72, 74, 82] _) fa_81 (by decide)) fa_140 (by decide)) hp_142 hp_143 hP hS (lv_sub hl [1, 0] rfl)
                    · skip
                      refine lv_if_ne (tgt := 160) hx hb dX12_step_132 (by decide) (fun c_92 => ?_) (fun c_92 => ?_)
                      · skip
                        refine lv_aload_n hx hb dX12_step_160 rfl (lv_at hl 0 rfl) ?_
                        refine gM_68 hx hb htg hown hK hP dX12_step_161 ?_
                        refine lv_iload_n hx hb dX12_step_164 rfl (lv_at hl 1 rfl) ?_
                        refine lM_68 hx hb hK hP (iv_in i_89 (by decide) (by decide)) dX12_step_165 (fun v_93 ev_93 => ?_)
                        obtain rfl : v_91 = v_93 := ev_91.trans ev_93.symm
                        refine lv_iconst (v := 1) hx hb dX12_step_166 (by decide) ?_
                        refine lv_icmp_eq (tgt := 180) hx hb dX12_step_167 (by decide) (fun c_94 => ?_) (fun c_94 => ?_)
                        · skip
                          have i_95 : 1 ≤ v_91.toInt ∧ v_91.toInt ≤ 1 := iv_eq1 (⟨by decide, by decide⟩ : (1 : Int) ≤ (1 : Int32).toInt ∧ (1 : Int32).toInt ≤ 1) c_94
                          refine lv_aload_n hx hb dX12_step_180 rfl (lv_at hl 0 rfl) ?_
                          refine gM_70 hx hb htg hown hK hP dX12_step_181 ?_
                          refine lv_iload_n hx hb dX12_step_184 rfl (lv_at hl 1 rfl) ?_
                          refine lM_70 hx hb hK hP (iv_in i_89 (by decide) (by decide)) dX12_step_185 (fun v_96 ev_96 => ?_)
                          refine lv_aload_n hx hb dX12_step_186 rfl (lv_at hl 0 rfl) ?_
                          refine gM_85 hx hb htg hown hK hP dX12_step_187 ?_
                          refine my_ti (y := fv 85) ((fr_79 85 rfl).trans ((fr_28 85 rfl))) ?_
                          have i_97 : 0 ≤ (fv 85).toInt ∧ (fv 85).toInt ≤ 840 := hF_fv 85
                          refine lv_icmp_ne (tgt := 198) hx hb dX12_step_190 (by decide) (fun c_98 => ?_) (fun c_98 => ?_)
                          · skip
                            exact hj_144 fv_78 ar_80 wd_82 _ _ ls hF_fv_78 (fM_rf [8] _) hA_ar_80 (fA_rf [4, 15, 18, 68, 69, 70, 71, 72, 74, 82] _) hp_83 hp_84 hP hS (lv_sub hl [0, 1] rfl)
                          · skip
                            have i_99 : 0 ≤ v_96.toInt ∧ v_96.toInt ≤ 840 := iv_eq1 i_97 c_98
                            refine lv_aload_n hx hb dX12_step_193 rfl (lv_at hl 0 rfl) ?_
                            refine lv_iload_n hx hb dX12_step_194 rfl (lv_at hl 1 rfl) ?_
                            refine va_callv (va_runV (As := [.int x_77]) (rest := []) ⟨hx, hb, hml, hown, hts⟩ (m_arrive l dC dI H.size h ad cA hd fv_78 wd_82 ar_80 hF_fv_78 hA_ar_80 x_77 i_89 hp_83) (cwV 1 hts (gV kw_8_220 kw_8_222 kw_p_95 kw_1_15 kw_8_223) rfl rfl rfl (by decide +kernel) ⟨Nat.le_of_ble_eq_true rfl, Nat.le_of_ble_eq_true rfl⟩) ⟨fun a U g mk q => ⟨q.1, q.2.1, q.2.2.1, va_K.moved (u := U) (U := U.calling g mk a) (Vm.Alike.refl U.vm) q.2.2.2⟩, va_recv hK hP (ci := 12) (q0 := 0) rfl rfl, fun U hU hW => ⟨rfl, by rw [hU], by rw [hU]; exact hP, va_K.moved hW.alike hK⟩⟩ rfl rfl hl.1 rfl (lv_room (Nat.le_of_ble_eq_true rfl)) dX12_step_195 ⟨Nat.le_of_ble_eq_true rfl, Nat.le_of_ble_eq_true rfl⟩) hS (fun q _ h9 => aM_up hS q h9) (aM_up hS) (fun u t H1 locs ht _ hw hB _ hk1 hS => ?_)
                            obtain ⟨fv_102, wd_103, ar_104⟩ := u
                            obtain ⟨hF_fv_102, hA_ar_104, fr_105, fa_106, p_101, -⟩ := hw
                            have hP : va_P (dC, dI) vwCl (wsM h ad cA fv_102 wd_103 ar_104) H1 := by have h9 := hB.1; rw [ht] at h9; exact h9
                            have fr_105 : fM [] fv_78 fv_102 := fr_105
                            have fa_106 : fA [68, 72] ar_80 ar_104 := fa_106
                            have p_101 : sW ar_104 := p_101
                            generalize H1 = H at hP hS ⊢
                            exact hj_144 fv_102 ar_104 wd_103 _ _ ls hF_fv_102 (fM_call (fM_rf [8] _) fr_105 (by decide)) hA_ar_104 (fA_call (fA_rf [4, 15, 18, 68, 69, 70, 71, 72, 74, 82] _) fa_106 (by decide)) p_101 (vM_fr hp_84 (fM_call (fM_rf [] _) fr_105 (by decide)) (fA_call (fA_rf [68, 72] _) fa_106 (by decide)) rfl rfl rfl rfl rfl) hP hS (lv_sub hl [0, 1] rfl)
                        · skip
                          refine lv_aload_n hx hb dX12_step_170 rfl (lv_at hl 0 rfl) ?_
                          refine gM_68 hx hb htg hown hK hP dX12_step_171 ?_
                          refine lv_iload_n hx hb dX12_step_174 rfl (lv_at hl 1 rfl) ?_
                          refine lM_68 hx hb hK hP (iv_in i_89 (by decide) (by decide)) dX12_step_175 (fun v_107 ev_107 => ?_)
                          obtain rfl : v_91 = v_107 := ev_91.trans ev_107.symm
                          refine lv_iconst (v := 4) hx hb dX12_step_176 (by decide) ?_
                          refine lv_icmp_ne (tgt := 198) hx hb dX12_step_177 (by decide) (fun c_108 => ?_) (fun c_108 => ?_)
                          · skip
                            exact hj_144 fv_78 ar_80 wd_82 _ _ ls hF_fv_78 (fM_rf [8] _) hA_ar_80 (fA_rf [4, 15, 18, 68, 69, 70, 71, 72, 74, 82] _) hp_83 hp_84 hP hS (lv_sub hl [0, 1] rfl)
                          · skip
                            have i_109 : 4 ≤ v_91.toInt ∧ v_91.toInt ≤ 4 := iv_eq1 (⟨by decide, by decide⟩ : (4 : Int) ≤ (4 : Int32).toInt ∧ (4 : Int32).toInt ≤ 4) c_108
                            refine lv_aload_n hx hb dX12_step_180 rfl (lv_at hl 0 rfl) ?_
                            refine gM_70 hx hb htg hown hK hP dX12_step_181 ?_
                            refine lv_iload_n hx hb dX12_step_184 rfl (lv_at hl 1 rfl) ?_
                            refine lM_70 hx hb hK hP (iv_in i_89 (by decide) (by decide)) dX12_step_185 (fun v_110 ev_110 => ?_)
                            refine lv_aload_n hx hb dX12_step_186 rfl (lv_at hl 0 rfl) ?_
                            refine gM_85 hx hb htg hown hK hP dX12_step_187 ?_
                            refine my_ti (y := fv 85) ((fr_79 85 rfl).trans ((fr_28 85 rfl))) ?_
                            have i_111 : 0 ≤ (fv 85).toInt ∧ (fv 85).toInt ≤ 840 := hF_fv 85
                            refine lv_icmp_ne (tgt := 198) hx hb dX12_step_190 (by decide) (fun c_112 => ?_) (fun c_112 => ?_)
                            · skip
                              exact hj_144 fv_78 ar_80 wd_82 _ _ ls hF_fv_78 (fM_rf [8] _) hA_ar_80 (fA_rf [4, 15, 18, 68, 69, 70, 71, 72, 74, 82] _) hp_83 hp_84 hP hS (lv_sub hl [0, 1] rfl)
                            · skip
                              have i_113 : 0 ≤ v_110.toInt ∧ v_110.toInt ≤ 840 := iv_eq1 i_111 c_112
                              refine lv_aload_n hx hb dX12_step_193 rfl (lv_at hl 0 rfl) ?_
                              refine lv_iload_n hx hb dX12_step_194 rfl (lv_at hl 1 rfl) ?_
                              refine va_callv (va_runV (As := [.int x_77]) (rest := []) ⟨hx, hb, hml, hown, hts⟩ (m_arrive l dC dI H.size h ad cA hd fv_78 wd_82 ar_80 hF_fv_78 hA_ar_80 x_77 i_89 hp_83) (cwV 1 hts (gV kw_8_220 kw_8_222 kw_p_95 kw_1_15 kw_8_223) rfl rfl rfl (by decide +kernel) ⟨Nat.le_of_ble_eq_true rfl, Nat.le_of_ble_eq_true rfl⟩) ⟨fun a U g mk q => ⟨q.1, q.2.1, q.2.2.1, va_K.moved (u := U) (U := U.calling g mk a) (Vm.Alike.refl U.vm) q.2.2.2⟩, va_recv hK hP (ci := 12) (q0 := 0) rfl rfl, fun U hU hW => ⟨rfl, by rw [hU], by rw [hU]; exact hP, va_K.moved hW.alike hK⟩⟩ rfl rfl hl.1 rfl (lv_room (Nat.le_of_ble_eq_true rfl)) dX12_step_195 ⟨Nat.le_of_ble_eq_true rfl, Nat.le_of_ble_eq_true rfl⟩) hS (fun q _ h9 => aM_up hS q h9) (aM_up hS) (fun u t H1 locs ht _ hw hB _ hk1 hS => ?_)
                              obtain ⟨fv_116, wd_117, ar_118⟩ := u
                              obtain ⟨hF_fv_116, hA_ar_118, fr_119, fa_120, p_115, -⟩ := hw
                              have hP : va_P (dC, dI) vwCl (wsM h ad cA fv_116 wd_117 ar_118) H1 := by have h9 := hB.1; rw [ht] at h9; exact h9
                              have fr_119 : fM [] fv_78 fv_116 := fr_119
                              have fa_120 : fA [68, 72] ar_80 ar_118 := fa_120
                              have p_115 : sW ar_118 := p_115
                              generalize H1 = H at hP hS ⊢
                              exact hj_144 fv_116 ar_118 wd_117 _ _ ls hF_fv_116 (fM_call (fM_rf [8] _) fr_119 (by decide)) hA_ar_118 (fA_call (fA_rf [4, 15, 18, 68, 69, 70, 71, 72, 74, 82] _) fa_120 (by decide)) p_115 (vM_fr hp_84 (fM_call (fM_rf [] _) fr_119 (by decide)) (fA_call (fA_rf [68, 72] _) fa_120 (by decide)) rfl rfl rfl rfl rfl) hP hS (lv_sub hl [0, 1] rfl)
                      · skip
                        have i_121 : 0 ≤ v_91.toInt ∧ v_91.toInt ≤ 0 := iv_eq1 (⟨by decide, by decide⟩ : (0 : Int) ≤ (0 : Int32).toInt ∧ (0 : Int32).toInt ≤ 0) c_92
                        refine lv_aload_n hx hb dX12_step_135 rfl (lv_at hl 0 rfl) ?_
                        refine gM_12 hx hb htg hown hK hP dX12_step_136 ?_
                        refine lv_iload_n hx hb dX12_step_139 rfl (lv_at hl 1 rfl) ?_
                        refine lM_12 hx hb hK hP (iv_in i_89 (by decide) (by decide)) dX12_step_140 (fun v_122 ev_122 => ?_)
                        refine lv_aload_n hx hb dX12_step_141 rfl (lv_at hl 0 rfl) ?_
                        refine gM_85 hx hb htg hown hK hP dX12_step_142 ?_
                        refine my_ti (y := fv 85) ((fr_79 85 rfl).trans ((fr_28 85 rfl))) ?_
                        have i_123 : 0 ≤ (fv 85).toInt ∧ (fv 85).toInt ≤ 840 := hF_fv 85
                        refine lv_icmp_ne (tgt := 160) hx hb dX12_step_145 (by decide) (fun c_124 => ?_) (fun c_124 => ?_)
                        · skip
                          refine lv_aload_n hx hb dX12_step_160 rfl (lv_at hl 0 rfl) ?_
                          refine gM_68 hx hb htg hown hK hP dX12_step_161 ?_
                          refine lv_iload_n hx hb dX12_step_164 rfl (lv_at hl 1 rfl) ?_
                          refine lM_68 hx hb hK hP (iv_in i_89 (by decide) (by decide)) dX12_step_165 (fun v_125 ev_125 => ?_)
                          obtain rfl : v_91 = v_125 := ev_91.trans ev_125.symm
                          refine lv_iconst (v := 1) hx hb dX12_step_166 (by decide) ?_
                          refine lv_icmp_eq (tgt := 180) hx hb dX12_step_167 (by decide) (fun c_126 => ?_) (fun c_126 => ?_)
                          · skip
                            exact absurd True.intro (by have h7 := i_121; have h8 := (⟨by decide, by decide⟩ : (1 : Int) ≤ (1 : Int32).toInt ∧ (1 : Int32).toInt ≤ 1); have h9 := congrArg Int32.toInt c_126; exfalso; omega)
                          · skip
                            refine lv_aload_n hx hb dX12_step_170 rfl (lv_at hl 0 rfl) ?_
                            refine gM_68 hx hb htg hown hK hP dX12_step_171 ?_
                            refine lv_iload_n hx hb dX12_step_174 rfl (lv_at hl 1 rfl) ?_
                            refine lM_68 hx hb hK hP (iv_in i_89 (by decide) (by decide)) dX12_step_175 (fun v_127 ev_127 => ?_)
                            obtain rfl : v_91 = v_127 := ev_91.trans ev_127.symm
                            refine lv_iconst (v := 4) hx hb dX12_step_176 (by decide) ?_
                            refine lv_icmp_ne (tgt := 198) hx hb dX12_step_177 (by decide) (fun c_128 => ?_) (fun c_128 => ?_)
                            · skip
                              exact hj_144 fv_78 ar_80 wd_82 _ _ ls hF_fv_78 (fM_rf [8] _) hA_ar_80 (fA_rf [4, 15, 18, 68, 69, 70, 71, 72, 74, 82] _) hp_83 hp_84 hP hS (lv_sub hl [0, 1] rfl)
                            · skip
                              exact absurd True.intro (by have h7 := i_121; have h8 := (⟨by decide, by decide⟩ : (4 : Int) ≤ (4 : Int32).toInt ∧ (4 : Int32).toInt ≤ 4); have h9 := congrArg Int32.toInt c_128; exfalso; omega)
                        · skip
                          have i_129 : 0 ≤ v_122.toInt ∧ v_122.toInt ≤ 840 := iv_eq1 i_123 c_124
                          refine lv_aload_n hx hb dX12_step_148 rfl (lv_at hl 0 rfl) ?_
                          refine lv_iload_n hx hb dX12_step_149 rfl (lv_at hl 1 rfl) ?_
                          refine lv_aload_n hx hb dX12_step_150 rfl (lv_at hl 0 rfl) ?_
                          refine gM_85 hx hb htg hown hK hP dX12_step_151 ?_
                          refine my_ti (y := fv 85) ((fr_79 85 rfl).trans ((fr_28 85 rfl))) ?_
                          refine va_callv (va_runV (As := [.int x_77, .int (fv 85)]) (rest := []) ⟨hx, hb, hml, hown, hts⟩ (m_choose l dC dI H.size h ad cA hd fv_78 wd_82 ar_80 hF_fv_78 hA_ar_80 x_77 (fv 85) i_89 hp_83) (cwV 2 hts (gV kw_8_188 kw_8_190 kw_p_87 kw_1_15 kw_8_191) rfl rfl rfl (by decide +kernel) ⟨Nat.le_of_ble_eq_true rfl, Nat.le_of_ble_eq_true rfl⟩) ⟨fun a U g mk q => ⟨q.1, q.2.1, q.2.2.1, va_K.moved (u := U) (U := U.calling g mk a) (Vm.Alike.refl U.vm) q.2.2.2⟩, va_recv hK hP (ci := 12) (q0 := 0) rfl rfl, fun U hU hW => ⟨rfl, by rw [hU], by rw [hU]; exact hP, va_K.moved hW.alike hK⟩⟩ rfl rfl hl.1 rfl (lv_room (Nat.le_of_ble_eq_true rfl)) dX12_step_154 ⟨Nat.le_of_ble_eq_true rfl, Nat.le_of_ble_eq_true rfl⟩) hS (fun q _ h9 => aM_up hS q h9) (aM_up hS) (fun u t H1 locs ht _ hw hB _ hk1 hS => ?_)
                          obtain ⟨fv_132, wd_133, ar_134⟩ := u
                          obtain ⟨hF_fv_132, hA_ar_134, fr_135, fa_136, p_131, -⟩ := hw
                          have hP : va_P (dC, dI) vwCl (wsM h ad cA fv_132 wd_133 ar_134) H1 := by have h9 := hB.1; rw [ht] at h9; exact h9
                          have fr_135 : fM [8] fv_78 fv_132 := fr_135
                          have fa_136 : fA [4, 15, 18, 68, 69, 70, 71, 72, 74, 82] ar_80 ar_134 := fa_136
                          have p_131 : sW ar_134 := p_131
                          generalize H1 = H at hP hS ⊢
                          refine lv_goto (tgt := 198) hx hb dX12_step_157 (by decide) ?_
                          exact hj_144 fv_132 ar_134 wd_133 _ _ ls hF_fv_132 (fM_call (fM_rf [8] _) fr_135 (by decide)) hA_ar_134 (fA_call (fA_rf [4, 15, 18, 68, 69, 70, 71, 72, 74, 82] _) fa_136 (by decide)) p_131 (vM_fr hp_84 (fM_call (fM_rf [8] _) fr_135 (by decide)) (fA_call (fA_rf [4, 15, 18, 68, 69, 70, 71, 72, 74, 82] _) fa_136 (by decide)) rfl rfl rfl rfl rfl) hP hS (lv_sub hl [0, 1] rfl)
              · skip
                have z_242 : (0 : Int32).toInt = 0 := by decide
                exact hj_87 41 0 fv_27 ar_29 wd_31 _ _ ls (by first | decide | omega) (iv_w (⟨by decide, by decide⟩ : (0 : Int) ≤ (0 : Int32).toInt ∧ (0 : Int32).toInt ≤ 0) (by decide) (by decide)) hF_fv_27 (fM_rf [8] _) hA_ar_29 (fA_rf [4, 15, 18, 68, 69, 70, 71, 72, 74, 82] _) hp_32 hp_33 hP hS (lv_sub hl [1, 0] rfl)
            · skip
              have i_39 : 0 ≤ x_26.toInt ∧ x_26.toInt ≤ 39 := iv_lt1 i_x_26 i_37 (Int32.not_le.mp c_38)
              have i_40 : 1 ≤ (fv 32).toInt ∧ (fv 32).toInt ≤ 40 := iv_lt2 i_x_26 i_37 (Int32.not_le.mp c_38)
              refine lv_aload_n hx hb dX12_step_46 rfl (lv_at hl 0 rfl) ?_
              refine gM_68 hx hb htg hown hK hP dX12_step_47 ?_
              refine lv_iload_n hx hb dX12_step_50 rfl (lv_at hl 1 rfl) ?_
              refine lM_68 hx hb hK hP (iv_in i_39 (by decide) (by decide)) dX12_step_51 (fun v_41 ev_41 => ?_)
              refine lv_iconst (v := 3) hx hb dX12_step_52 (by decide) ?_
              refine my_cut (P := fun R9 a9 Q9 => ∀ (fv_66 : Nat → Int32) (ar_68 : Nat → Nat → Int32) (wd_70 : Int64) (H : Heap) (locs : List Loc) (ls : Array Slot), rF fv_66 → fM [8] fv_27 fv_66 → rA ar_68 → fA [4, 15, 18, 68, 69, 70, 71, 72, 74, 82] ar_29 ar_68 → sW ar_68 → vM fv_66 ar_68 → va_P (dC, dI) vwCl (wsM h ad cA fv_66 wd_70 ar_68) H → va_S (aM h ad s.heap.size) s.heap H locs → lv_has ls 2 [(0, .ref h), (1, .int x_26)] → W p l e R9 s m a9 below meth c H locs 0 0 Q9 (F0 m 110 ls [])) ?_ (fun hj_73 => ?_)
              · intro fv_66 ar_68 wd_70 H locs ls hF_fv_66 fr_67 hA_ar_68 fa_69 hp_71 hp_72 hP hS hl
                obtain ⟨v_74, ev_74⟩ : ∃ z : Int32, z = x_26 + 1 := ⟨_, rfl⟩
                refine lv_iinc (v := v_74) (lv' := [(1, .int v_74), (0, .ref h)]) hx hb dX12_step_110 hl (k := 1) rfl (by rw [ev_74]; rfl) (by decide) rfl (fun ls hl => ?_)
                have t_75 : v_74.toInt = x_26.toInt + 1 ∧ 1 ≤ v_74.toInt ∧ v_74.toInt ≤ 40 := iv_addc ev_74 i_39 (by decide) (by decide) (by decide)
                refine lv_goto (tgt := 38) hx hb dX12_step_113 (by decide) ?_
                exact ih_34 v_74 fv_66 ar_68 wd_70 _ _ ls (by omega) (iv_w t_75.2 (by decide) (by decide)) hF_fv_66 (fM_call (fM_call (fM_rf [8] _) fr_28 (by decide)) fr_67 (by decide)) hA_ar_68 (fA_call (fA_call (fA_rf [4, 15, 18, 68, 69, 70, 71, 72, 74, 82] _) fa_30 (by decide)) fa_69 (by decide)) hp_71 hp_72 hP hS (lv_sub hl [1, 0] rfl)
              · skip
                refine lv_icmp_ne (tgt := 110) hx hb dX12_step_53 (by decide) (fun c_42 => ?_) (fun c_42 => ?_)
                · skip
                  exact hj_73 fv_27 ar_29 wd_31 _ _ ls hF_fv_27 (fM_rf [8] _) hA_ar_29 (fA_rf [4, 15, 18, 68, 69, 70, 71, 72, 74, 82] _) hp_32 hp_33 hP hS (lv_sub hl [0, 1] rfl)
                · skip
                  have i_43 : 3 ≤ v_41.toInt ∧ v_41.toInt ≤ 3 := iv_eq1 (⟨by decide, by decide⟩ : (3 : Int) ≤ (3 : Int32).toInt ∧ (3 : Int32).toInt ≤ 3) c_42
                  refine lv_aload_n hx hb dX12_step_56 rfl (lv_at hl 0 rfl) ?_
                  refine gM_77 hx hb htg hown hK hP dX12_step_57 ?_
                  refine lv_aload_n hx hb dX12_step_60 rfl (lv_at hl 0 rfl) ?_
                  refine gM_25 hx hb htg hown hK hP dX12_step_61 ?_
                  refine lv_aload_n hx hb dX12_step_64 rfl (lv_at hl 0 rfl) ?_
                  refine gM_71 hx hb htg hown hK hP dX12_step_65 ?_
                  refine lv_iload_n hx hb dX12_step_68 rfl (lv_at hl 1 rfl) ?_
                  refine lM_71 hx hb hK hP (iv_in i_39 (by decide) (by decide)) dX12_step_69 (fun v_44 ev_44 => ?_)
                  have i_45 : (-1) ≤ v_44.toInt ∧ v_44.toInt ≤ 79 := ev_44 ▸ hA_ar_29 71 _
                  have i_46 : 0 ≤ v_44.toInt ∧ v_44.toInt ≤ 79 := ⟨by have h9 := hp_32 x_26.toNatClampNeg; rw [← ev_41, ← ev_44] at h9; exact h9 (Int.le_trans (by decide) (i_43).1) (Int.le_trans (i_43).2 (by decide)), (i_45).2⟩
                  refine lM_25 hx hb hK hP (iv_in i_46 (by decide) (by decide)) dX12_step_70 (fun v_47 ev_47 => ?_)
                  have i_48 : 0 ≤ v_47.toInt ∧ v_47.toInt ≤ 19 := ev_47 ▸ hA_ar_29 25 _
                  refine lM_77 hx hb hK hP (iv_in i_48 (by decide) (by decide)) dX12_step_71 (fun v_49 ev_49 => ?_)
                  refine lv_iconst (v := (-1)) hx hb dX12_step_72 (by decide) ?_
                  refine lv_icmp_eq (tgt := 79) hx hb dX12_step_73 (by decide) (fun c_50 => ?_) (fun c_50 => ?_)
                  · skip
                    have i_51 : (-1) ≤ v_49.toInt ∧ v_49.toInt ≤ (-1) := iv_eq1 (⟨by decide, by decide⟩ : (-1 : Int) ≤ ((-1) : Int32).toInt ∧ ((-1) : Int32).toInt ≤ -1) c_50
                    refine lv_aload_n hx hb dX12_step_79 rfl (lv_at hl 0 rfl) ?_
                    refine gM_69 hx hb htg hown hK hP dX12_step_80 ?_
                    refine lv_iload_n hx hb dX12_step_83 rfl (lv_at hl 1 rfl) ?_
                    refine lv_aload_n hx hb dX12_step_84 rfl (lv_at hl 0 rfl) ?_
                    refine gM_19 hx hb htg hown hK hP dX12_step_85 ?_
                    refine lv_aload_n hx hb dX12_step_88 rfl (lv_at hl 0 rfl) ?_
                    refine gM_27 hx hb htg hown hK hP dX12_step_89 ?_
                    refine lv_aload_n hx hb dX12_step_92 rfl (lv_at hl 0 rfl) ?_
                    refine gM_71 hx hb htg hown hK hP dX12_step_93 ?_
                    refine lv_iload_n hx hb dX12_step_96 rfl (lv_at hl 1 rfl) ?_
                    refine lM_71 hx hb hK hP (iv_in i_39 (by decide) (by decide)) dX12_step_97 (fun v_52 ev_52 => ?_)
                    obtain rfl : v_44 = v_52 := ev_44.trans ev_52.symm
                    refine lM_27 hx hb hK hP (iv_in i_46 (by decide) (by decide)) dX12_step_98 (fun v_53 ev_53 => ?_)
                    have i_54 : 0 ≤ v_53.toInt ∧ v_53.toInt ≤ 7 := ev_53 ▸ hA_ar_29 27 _
                    refine lM_19 hx hb hK hP (iv_in i_54 (by decide) (by decide)) dX12_step_99 (fun v_55 ev_55 => ?_)
                    have i_56 : 0 ≤ v_55.toInt ∧ v_55.toInt ≤ 11 := ev_55 ▸ hA_ar_29 19 _
                    refine sM_69 hx hb hK hP hS hd (iv_in i_39 (by decide) (by decide)) dX12_step_100 (fun H locs ar_57 ear_57 hP hS => ?_)
                    have hA_ar_57 : rA ar_57 := rA_put hA_ar_29 ear_57 i_56
                    refine lv_aload_n hx hb dX12_step_101 rfl (lv_at hl 0 rfl) ?_
                    refine lv_iload_n hx hb dX12_step_102 rfl (lv_at hl 1 rfl) ?_
                    refine lv_aload_n hx hb dX12_step_103 rfl (lv_at hl 0 rfl) ?_
                    refine gM_85 hx hb htg hown hK hP dX12_step_104 ?_
                    refine my_ti (y := fv 85) ((fr_28 85 rfl)) ?_
                    have i_58 : 0 ≤ (fv 85).toInt ∧ (fv 85).toInt ≤ 840 := hF_fv 85
                    refine va_callv (va_runV (As := [.int x_26, .int (fv 85)]) (rest := []) ⟨hx, hb, hml, hown, hts⟩ (m_choose l dC dI H.size h ad cA hd fv_27 wd_31 ar_57 hF_fv_27 hA_ar_57 x_26 (fv 85) i_39 (sW_fr hp_32 (fA_put (fA_rf [69] _) ear_57 (by decide)) rfl rfl)) (cwV 2 hts (gV kw_8_188 kw_8_190 kw_p_87 kw_1_15 kw_8_191) rfl rfl rfl (by decide +kernel) ⟨Nat.le_of_ble_eq_true rfl, Nat.le_of_ble_eq_true rfl⟩) ⟨fun a U g mk q => ⟨q.1, q.2.1, q.2.2.1, va_K.moved (u := U) (U := U.calling g mk a) (Vm.Alike.refl U.vm) q.2.2.2⟩, va_recv hK hP (ci := 12) (q0 := 0) rfl rfl, fun U hU hW => ⟨rfl, by rw [hU], by rw [hU]; exact hP, va_K.moved hW.alike hK⟩⟩ rfl rfl hl.1 rfl (lv_room (Nat.le_of_ble_eq_true rfl)) dX12_step_107 ⟨Nat.le_of_ble_eq_true rfl, Nat.le_of_ble_eq_true rfl⟩) hS (fun q _ h9 => aM_up hS q h9) (aM_up hS) (fun u t H1 locs ht _ hw hB _ hk1 hS => ?_)
                    obtain ⟨fv_61, wd_62, ar_63⟩ := u
                    obtain ⟨hF_fv_61, hA_ar_63, fr_64, fa_65, p_60, -⟩ := hw
                    have hP : va_P (dC, dI) vwCl (wsM h ad cA fv_61 wd_62 ar_63) H1 := by have h9 := hB.1; rw [ht] at h9; exact h9
                    have fr_64 : fM [8] fv_27 fv_61 := fr_64
                    have fa_65 : fA [4, 15, 18, 68, 69, 70, 71, 72, 74, 82] ar_57 ar_63 := fa_65
                    have p_60 : sW ar_63 := p_60
                    generalize H1 = H at hP hS ⊢
                    exact hj_73 fv_61 ar_63 wd_62 _ _ ls hF_fv_61 (fM_call (fM_rf [8] _) fr_64 (by decide)) hA_ar_63 (fA_call (fA_put (fA_rf [4, 15, 18, 68, 69, 70, 71, 72, 74, 82] _) ear_57 (by decide)) fa_65 (by decide)) p_60 (vM_fr hp_33 (fM_call (fM_rf [8] _) fr_64 (by decide)) (fA_call (fA_put (fA_rf [4, 15, 18, 68, 69, 70, 71, 72, 74, 82] _) ear_57 (by decide)) fa_65 (by decide)) rfl rfl rfl rfl rfl) hP hS (lv_sub hl [0, 1] rfl)
                  · skip
                    refine lv_goto (tgt := 110) hx hb dX12_step_76 (by decide) ?_
                    exact hj_73 fv_27 ar_29 wd_31 _ _ ls hF_fv_27 (fM_rf [8] _) hA_ar_29 (fA_rf [4, 15, 18, 68, 69, 70, 71, 72, 74, 82] _) hp_32 hp_33 hP hS (lv_sub hl [0, 1] rfl)
        · skip
          have z_243 : (0 : Int32).toInt = 0 := by decide
          exact hj_36 41 0 fv ar_2 wd _ _ ls (by first | decide | omega) (iv_w (⟨by decide, by decide⟩ : (0 : Int) ≤ (0 : Int32).toInt ∧ (0 : Int32).toInt ≤ 0) (by decide) (by decide)) hF_fv (fM_rf [8] _) hA_ar_2 (fA_rf [4, 15, 18, 68, 69, 70, 71, 72, 74, 82] _) hp_4 hp_5 hP hS (lv_sub hl [1, 0] rfl)
      · skip
        have i_11 : 0 ≤ x_1.toInt ∧ x_1.toInt ≤ 19 := iv_lt1 i_x_1 i_9 (Int32.not_le.mp c_10)
        have i_12 : 1 ≤ (fv 34).toInt ∧ (fv 34).toInt ≤ 20 := iv_lt2 i_x_1 i_9 (Int32.not_le.mp c_10)
        refine lv_aload_n hx hb dX12_step_10 rfl (lv_at hl 0 rfl) ?_
        refine gM_77 hx hb htg hown hK hP dX12_step_11 ?_
        refine lv_iload_n hx hb dX12_step_14 rfl (lv_at hl 1 rfl) ?_
        refine lM_77 hx hb hK hP (iv_in i_11 (by decide) (by decide)) dX12_step_15 (fun v_13 ev_13 => ?_)
        refine lv_aload_n hx hb dX12_step_16 rfl (lv_at hl 0 rfl) ?_
        refine gM_85 hx hb htg hown hK hP dX12_step_17 ?_
        have i_14 : 0 ≤ (fv 85).toInt ∧ (fv 85).toInt ≤ 840 := hF_fv 85
        refine my_cut (P := fun R9 a9 Q9 => ∀ (ar_18 : Nat → Nat → Int32) (H : Heap) (locs : List Loc) (ls : Array Slot), rA ar_18 → fA [77] ar_2 ar_18 → sW ar_18 → vM fv ar_18 → va_P (dC, dI) vwCl (wsM h ad cA fv wd ar_18) H → va_S (aM h ad s.heap.size) s.heap H locs → lv_has ls 2 [(0, .ref h), (1, .int x_1)] → W p l e R9 s m a9 below meth c H locs 0 0 Q9 (F0 m 30 ls [])) ?_ (fun hj_22 => ?_)
        · intro ar_18 H locs ls hA_ar_18 fa_19 hp_20 hp_21 hP hS hl
          obtain ⟨v_23, ev_23⟩ : ∃ z : Int32, z = x_1 + 1 := ⟨_, rfl⟩
          refine lv_iinc (v := v_23) (lv' := [(1, .int v_23), (0, .ref h)]) hx hb dX12_step_30 hl (k := 1) rfl (by rw [ev_23]; rfl) (by decide) rfl (fun ls hl => ?_)
          have t_24 : v_23.toInt = x_1.toInt + 1 ∧ 1 ≤ v_23.toInt ∧ v_23.toInt ≤ 20 := iv_addc ev_23 i_11 (by decide) (by decide) (by decide)
          refine lv_goto (tgt := 2) hx hb dX12_step_33 (by decide) ?_
          exact ih_6 v_23 ar_18 _ _ ls (by omega) (iv_w t_24.2 (by decide) (by decide)) hA_ar_18 (fA_call (fA_call (fA_rf [77] _) fa_3 (by decide)) fa_19 (by decide)) hp_20 hp_21 hP hS (lv_sub hl [1, 0] rfl)
        · skip
          refine lv_icmp_ne (tgt := 30) hx hb dX12_step_20 (by decide) (fun c_15 => ?_) (fun c_15 => ?_)
          · skip
            exact hj_22 ar_2 _ _ ls hA_ar_2 (fA_rf [77] _) hp_4 hp_5 hP hS (lv_sub hl [0, 1] rfl)
          · skip
            have i_16 : 0 ≤ v_13.toInt ∧ v_13.toInt ≤ 840 := iv_eq1 i_14 c_15
            refine lv_aload_n hx hb dX12_step_23 rfl (lv_at hl 0 rfl) ?_
            refine gM_77 hx hb htg hown hK hP dX12_step_24 ?_
            refine lv_iload_n hx hb dX12_step_27 rfl (lv_at hl 1 rfl) ?_
            refine lv_iconst (v := (-1)) hx hb dX12_step_28 (by decide) ?_
            refine sM_77 hx hb hK hP hS hd (iv_in i_11 (by decide) (by decide)) dX12_step_29 (fun H locs ar_17 ear_17 hP hS => ?_)
            have hA_ar_17 : rA ar_17 := rA_put hA_ar_2 ear_17 (iv_any _)
            exact hj_22 ar_17 _ _ ls hA_ar_17 (fA_put (fA_rf [77] _) ear_17 (by decide)) (sW_fr hp_4 (fA_put (fA_rf [77] _) ear_17 (by decide)) rfl rfl) (vM_fr hp_5 (fM_rf [] _) (fA_put (fA_rf [77] _) ear_17 (by decide)) rfl rfl rfl rfl rfl) hP hS (lv_sub hl [0, 1] rfl)
  · skip
    have z_244 : (0 : Int32).toInt = 0 := by decide
    exact hj_8 21 0 ar _ _ ls (by first | decide | omega) (iv_w (⟨by decide, by decide⟩ : (0 : Int) ≤ (0 : Int32).toInt ∧ (0 : Int32).toInt ≤ 0) (by decide) (by decide)) hA_ar (fA_rf [77] _) hp_sW hp_vM hP hS (lv_sub hl [1, 0] rfl)
set_option maxHeartbeats 4000000 in
set_option maxRecDepth 100000 in
theorem m_goThrough (l : Launch) (dC : Nat → ClassId) (dI : Nat → Nat → Nat) (sz h : Nat) (ad : Nat → Nat) (cA : Nat → ClassId) (hd : dM h ad) (fv : Nat → Int32) (wd : Int64) (ar : Nat → Nat → Int32) (hF_fv : rF fv) (hA_ar : rA ar) (a : Int32) (hp_sW : sW ar) (hp_vM : vM fv ar) : Met l yX12_goThrough (.code yX12_goThrough cX12_goThrough 5 none :: lw_good) ({ frames := 9, cells := 0, slots := 0, locals := 201 }) (va_Pc [.ref h, .int a] (prM dC dI h ad cA fv wd ar sz)) (va_Qv (fun (u : mS) => rF u.1 ∧ rA u.2.2 ∧ fM [8, 36, 66, 84, 85, 87] fv u.1 ∧ fA [4, 15, 16, 18, 24, 64, 65, 68, 69, 70, 71, 72, 73, 74, 75, 76, 77, 78, 79, 80, 82, 83] ar u.2.2 ∧ (sW u.2.2) ∧ True) (enM dC dI h ad cA) (aM h ad sz)) 0 0 (aM h ad sz) := by
  refine Met.ofW (cc := cX12_goThrough) (maxL := 5) (ret := none) (by decide) rfl ?_
  intro p e s m args below meth c s₁ B hml hv
  obtain ⟨rfl, hsz, hP, hK⟩ := hv
  have hx := B.exec
  have hb := B.bytes
  have hr := B.returns
  have hts := atoms_spec (ws := (.code yX12_goThrough cX12_goThrough 5 none :: lw_good)) B.pre
  have htg : ∀ w ∈ lw_good, w.before _ s = true := fun w hw => hts w (List.mem_cons_of_mem _ hw)
  have hown : s.vm.findClass RX12 = some m.cls := findClass_of_methodNamed B.named
  have hlocks := B.notSynchronized
  subst hsz
  have hS : va_S (aM h ad s.heap.size) s.heap s.heap [] := va_S.rf
  have hl := lv_entry ([.ref h, .int a]) (n := 5) (Nat.le_of_ble_eq_true rfl)
  rw [lg_entry_eq]
  generalize (lg_sl ([.ref h, .int a]) ++ List.replicate (5 - (lg_sl ([.ref h, .int a])).length) Slot.unset).toArray = ls at hl ⊢
  have hl : lv_has ls 5 [(0, .ref h), (1, .int a)] := hl
  refine lv_aload_n hx hb dX12_goThrough_0 rfl (lv_at hl 0 rfl) ?_
  refine lv_iload_n hx hb dX12_goThrough_1 rfl (lv_at hl 1 rfl) ?_
  refine pM_84 hx hb htg hown hK hP hS hd dX12_goThrough_2 (fun H locs fv_1 efv_1 hP hS => ?_)
  have hF_fv_1 : rF fv_1 := rF_put hF_fv efv_1 (iv_any a)
  refine lv_iconst (v := 0) hx hb dX12_goThrough_5 (by decide) ?_
  refine lv_istore_n (lv' := [(2, .int 0), (0, .ref h), (1, .int a)]) hx hb dX12_goThrough_6 rfl hl (by decide) rfl (fun ls hl => ?_)
  refine my_cut (P := fun R9 a9 Q9 => ∀ (n_7 : Nat) (x_2 : Int32) (ar_3 : Nat → Nat → Int32) (H : Heap) (locs : List Loc) (ls : Array Slot), 20 - x_2.toInt < (n_7 : Int) → (0 ≤ x_2.toInt ∧ x_2.toInt ≤ 20) → rA ar_3 → fA [76, 77, 78, 79] ar ar_3 → sW ar_3 → vM fv_1 ar_3 → va_P (dC, dI) vwCl (wsM h ad cA fv_1 wd ar_3) H → va_S (aM h ad s.heap.size) s.heap H locs → lv_has ls 5 [(0, .ref h), (2, .int x_2)] → W p l e R9 s m a9 below meth c H locs 0 0 Q9 (F0 m 7 ls [])) ?_ (fun hj_9 => ?_)
  · intro n_7
    induction n_7 with
    | zero => intro x_2 ar_3 H locs ls fu_8 i_x_2 hA_ar_3 fa_4 hp_5 hp_6; exfalso; omega
    | succ n_7 ih_7 =>
      intro x_2 ar_3 H locs ls fu_8 i_x_2 hA_ar_3 fa_4 hp_5 hp_6 hP hS hl
      refine lv_iload_n hx hb dX12_goThrough_7 rfl (lv_at hl 1 rfl) ?_
      refine lv_aload_n hx hb dX12_goThrough_8 rfl (lv_at hl 0 rfl) ?_
      refine gM_34 hx hb htg hown hK hP dX12_goThrough_9 ?_
      refine my_ti (y := fv 34) ((congrFun efv_1 34)) ?_
      have i_10 : 0 ≤ (fv 34).toInt ∧ (fv 34).toInt ≤ 20 := hF_fv 34
      refine lv_icmp_ge (tgt := 54) hx hb dX12_goThrough_12 (by decide) (fun c_11 => ?_) (fun c_11 => ?_)
      · skip
        refine lv_iconst (v := 0) hx hb dX12_goThrough_54 (by decide) ?_
        refine lv_istore_n (lv' := [(2, .int 0), (0, .ref h)]) hx hb dX12_goThrough_55 rfl hl (by decide) rfl (fun ls hl => ?_)
        refine my_cut (P := fun R9 a9 Q9 => ∀ (n_27 : Nat) (x_22 : Int32) (ar_23 : Nat → Nat → Int32) (H : Heap) (locs : List Loc) (ls : Array Slot), 40 - x_22.toInt < (n_27 : Int) → (0 ≤ x_22.toInt ∧ x_22.toInt ≤ 40) → rA ar_23 → fA [68, 69, 72, 74, 75] ar_3 ar_23 → sW ar_23 → vM fv_1 ar_23 → va_P (dC, dI) vwCl (wsM h ad cA fv_1 wd ar_23) H → va_S (aM h ad s.heap.size) s.heap H locs → lv_has ls 5 [(0, .ref h), (2, .int x_22)] → W p l e R9 s m a9 below meth c H locs 0 0 Q9 (F0 m 56 ls [])) ?_ (fun hj_29 => ?_)
        · intro n_27
          induction n_27 with
          | zero => intro x_22 ar_23 H locs ls fu_28 i_x_22 hA_ar_23 fa_24 hp_25 hp_26; exfalso; omega
          | succ n_27 ih_27 =>
            intro x_22 ar_23 H locs ls fu_28 i_x_22 hA_ar_23 fa_24 hp_25 hp_26 hP hS hl
            refine lv_iload_n hx hb dX12_goThrough_56 rfl (lv_at hl 1 rfl) ?_
            refine lv_aload_n hx hb dX12_goThrough_57 rfl (lv_at hl 0 rfl) ?_
            refine gM_32 hx hb htg hown hK hP dX12_goThrough_58 ?_
            refine my_ti (y := fv 32) ((congrFun efv_1 32)) ?_
            have i_30 : 0 ≤ (fv 32).toInt ∧ (fv 32).toInt ≤ 40 := hF_fv 32
            refine lv_icmp_ge (tgt := 110) hx hb dX12_goThrough_61 (by decide) (fun c_31 => ?_) (fun c_31 => ?_)
            · skip
              refine lv_iconst (v := 0) hx hb dX12_goThrough_110 (by decide) ?_
              refine lv_istore_n (lv' := [(2, .int 0), (0, .ref h)]) hx hb dX12_goThrough_111 rfl hl (by decide) rfl (fun ls hl => ?_)
              refine my_cut (P := fun R9 a9 Q9 => ∀ (n_50 : Nat) (x_45 : Int32) (ar_46 : Nat → Nat → Int32) (H : Heap) (locs : List Loc) (ls : Array Slot), 80 - x_45.toInt < (n_50 : Int) → (0 ≤ x_45.toInt ∧ x_45.toInt ≤ 80) → rA ar_46 → fA [80] ar_23 ar_46 → sW ar_46 → vM fv_1 ar_46 → va_P (dC, dI) vwCl (wsM h ad cA fv_1 wd ar_46) H → va_S (aM h ad s.heap.size) s.heap H locs → lv_has ls 5 [(0, .ref h), (2, .int x_45)] → W p l e R9 s m a9 below meth c H locs 0 0 Q9 (F0 m 112 ls [])) ?_ (fun hj_52 => ?_)
              · intro n_50
                induction n_50 with
                | zero => intro x_45 ar_46 H locs ls fu_51 i_x_45 hA_ar_46 fa_47 hp_48 hp_49; exfalso; omega
                | succ n_50 ih_50 =>
                  intro x_45 ar_46 H locs ls fu_51 i_x_45 hA_ar_46 fa_47 hp_48 hp_49 hP hS hl
                  refine lv_iload_n hx hb dX12_goThrough_112 rfl (lv_at hl 1 rfl) ?_
                  refine lv_aload_n hx hb dX12_goThrough_113 rfl (lv_at hl 0 rfl) ?_
                  refine gM_35 hx hb htg hown hK hP dX12_goThrough_114 ?_
                  refine my_ti (y := fv 35) ((congrFun efv_1 35)) ?_
                  have i_53 : 0 ≤ (fv 35).toInt ∧ (fv 35).toInt ≤ 80 := hF_fv 35
                  refine lv_icmp_ge (tgt := 133) hx hb dX12_goThrough_117 (by decide) (fun c_54 => ?_) (fun c_54 => ?_)
                  · skip
                    refine lv_aload_n hx hb dX12_goThrough_133 rfl (lv_at hl 0 rfl) ?_
                    refine va_callv (va_runV (As := []) (rest := []) ⟨hx, hb, hml, hown, hts⟩ (m_orderTrips l dC dI H.size h ad cA hd fv_1 wd ar_46 hF_fv_1 hA_ar_46) (cwV 0 hts (gV kw_8_176 kw_8_178 kw_p_84 kw_1_15 kw_8_179) rfl rfl rfl (by decide +kernel) ⟨Nat.le_of_ble_eq_true rfl, Nat.le_of_ble_eq_true rfl⟩) ⟨fun a U g mk q => ⟨q.1, q.2.1, q.2.2.1, va_K.moved (u := U) (U := U.calling g mk a) (Vm.Alike.refl U.vm) q.2.2.2⟩, va_recv hK hP (ci := 12) (q0 := 0) rfl rfl, fun U hU hW => ⟨rfl, by rw [hU], by rw [hU]; exact hP, va_K.moved hW.alike hK⟩⟩ rfl rfl hl.1 rfl (lv_room (Nat.le_of_ble_eq_true rfl)) dX12_goThrough_134 ⟨Nat.le_of_ble_eq_true rfl, Nat.le_of_ble_eq_true rfl⟩) hS (fun q _ h9 => aM_up hS q h9) (aM_up hS) (fun u t H1 locs ht _ hw hB _ hk1 hS => ?_)
                    obtain ⟨fv_62, wd_63, ar_64⟩ := u
                    obtain ⟨hF_fv_62, hA_ar_64, fr_65, fa_66, -⟩ := hw
                    have hP : va_P (dC, dI) vwCl (wsM h ad cA fv_62 wd_63 ar_64) H1 := by have h9 := hB.1; rw [ht] at h9; exact h9
                    have fr_65 : fM [87] fv_1 fv_62 := fr_65
                    have fa_66 : fA [83] ar_46 ar_64 := fa_66
                    generalize H1 = H at hP hS ⊢
                    refine lv_aload_n hx hb dX12_goThrough_137 rfl (lv_at hl 0 rfl) ?_
                    refine lv_iconst (v := 0) hx hb dX12_goThrough_138 (by decide) ?_
                    refine pM_85 hx hb htg hown hK hP hS hd dX12_goThrough_139 (fun H locs fv_67 efv_67 hP hS => ?_)
                    have hF_fv_67 : rF fv_67 := rF_put hF_fv_62 efv_67 (iv_w (⟨by decide, by decide⟩ : (0 : Int) ≤ (0 : Int32).toInt ∧ (0 : Int32).toInt ≤ 0) (by decide) (by decide))
                    refine my_cut (P := fun R9 a9 Q9 => ∀ (n_76 : Nat) (fv_68 : Nat → Int32) (ar_70 : Nat → Nat → Int32) (wd_72 : Int64) (H : Heap) (locs : List Loc) (ls : Array Slot), 840 - (fv_68 85).toInt < (n_76 : Int) → rF fv_68 → fM [8, 36, 66, 85] fv_67 fv_68 → rA ar_70 → fA [4, 15, 16, 18, 24, 64, 65, 68, 69, 70, 71, 72, 74, 75, 76, 77, 78, 79, 80, 82] ar_64 ar_70 → sW ar_70 → vM fv_68 ar_70 → (0 ≤ (fv_68 85).toInt ∧ (fv_68 85).toInt ≤ 840) → va_P (dC, dI) vwCl (wsM h ad cA fv_68 wd_72 ar_70) H → va_S (aM h ad s.heap.size) s.heap H locs → lv_has ls 5 [(0, .ref h)] → W p l e R9 s m a9 below meth c H locs 0 0 Q9 (F0 m 142 ls [])) ?_ (fun hj_78 => ?_)
                    · intro n_76
                      induction n_76 with
                      | zero => intro fv_68 ar_70 wd_72 H locs ls fu_77 hF_fv_68 fr_69 hA_ar_70 fa_71 hp_73 hp_74 q_75; exfalso; omega
                      | succ n_76 ih_76 =>
                        intro fv_68 ar_70 wd_72 H locs ls fu_77 hF_fv_68 fr_69 hA_ar_70 fa_71 hp_73 hp_74 q_75 hP hS hl
                        refine lv_aload_n hx hb dX12_goThrough_142 rfl (lv_at hl 0 rfl) ?_
                        refine gM_85 hx hb htg hown hK hP dX12_goThrough_143 ?_
                        have i_79 : 0 ≤ (fv_68 85).toInt ∧ (fv_68 85).toInt ≤ 840 := hF_fv_68 85
                        refine lv_sipush (v := 839) hx hb dX12_goThrough_146 (by decide) ?_
                        refine lv_icmp_gt (tgt := 169) hx hb dX12_goThrough_149 (by decide) (fun c_80 => ?_) (fun c_80 => ?_)
                        · skip
                          have i_81 : 840 ≤ (fv_68 85).toInt ∧ (fv_68 85).toInt ≤ 840 := iv_lt2 (⟨by decide, by decide⟩ : (839 : Int) ≤ (839 : Int32).toInt ∧ (839 : Int32).toInt ≤ 839) i_79 c_80
                          refine lv_aload_n hx hb dX12_goThrough_169 rfl (lv_at hl 0 rfl) ?_
                          have z_94 : (fv_68 58).toInt = (fv 58).toInt := congrArg Int32.toInt ((fr_69 58 rfl).trans ((congrFun efv_67 58).trans ((fr_65 58 rfl).trans ((congrFun efv_1 58)))))
                          have z_95 : 0 ≤ (fv_68 58).toInt ∧ (fv_68 58).toInt ≤ 10 := hF_fv_68 58
                          refine va_calli (va_runV (As := []) (rest := []) ⟨hx, hb, hml, hown, hts⟩ (m_bylawNow l dC dI H.size h ad cA hd fv_68 wd_72 ar_70 hF_fv_68 hA_ar_70) (cwV 0 hts (gV kw_8_153 kw_8_155 kw_p_81 kw_1_15 kw_8_156) rfl rfl rfl (by decide +kernel) ⟨Nat.le_of_ble_eq_true rfl, Nat.le_of_ble_eq_true rfl⟩) ⟨fun a U g mk q => ⟨q.1, q.2.1, q.2.2.1, va_K.moved (u := U) (U := U.calling g mk a) (Vm.Alike.refl U.vm) q.2.2.2⟩, va_recv hK hP (ci := 12) (q0 := 0) rfl rfl, fun U hU hW => ⟨rfl, by rw [hU], by rw [hU]; exact hP, va_K.moved hW.alike hK⟩⟩ rfl rfl hl.1 rfl (lv_room (Nat.le_of_ble_eq_true rfl)) dX12_goThrough_170 ⟨Nat.le_of_ble_eq_true rfl, Nat.le_of_ble_eq_true rfl⟩) hS (fun q _ h9 => aM_up hS q h9) (aM_up hS) (fun r_96 u t H1 locs ht _ hw hB _ hk1 hS => ?_)
                          obtain ⟨fv_99, wd_100, ar_101⟩ := u
                          obtain ⟨hF_fv_99, hA_ar_101, fr_102, fa_103, p_97, p_98, -⟩ := hw
                          have hP : va_P (dC, dI) vwCl (wsM h ad cA fv_99 wd_100 ar_101) H1 := by have h9 := hB.1; rw [ht] at h9; exact h9
                          have fr_102 : fM [] fv_68 fv_99 := fr_102
                          have fa_103 : fA [] ar_70 ar_101 := fa_103
                          have p_98 : r_96.toInt < (fv_68 58).toInt := p_98
                          generalize H1 = H at hP hS ⊢
                          refine lv_istore_n (lv' := [(2, .int r_96), (0, .ref h)]) hx hb dX12_goThrough_173 rfl hl (by decide) rfl (fun ls hl => ?_)
                          refine lv_iconst (v := 0) hx hb dX12_goThrough_174 (by decide) ?_
                          refine lv_istore_n (lv' := [(3, .int 0), (2, .int r_96), (0, .ref h)]) hx hb dX12_goThrough_175 rfl hl (by decide) rfl (fun ls hl => ?_)
                          refine my_cut (P := fun R9 a9 Q9 => ∀ (n_109 : Nat) (x_104 : Int32) (ar_105 : Nat → Nat → Int32) (H : Heap) (locs : List Loc) (ls : Array Slot), 40 - x_104.toInt < (n_109 : Int) → (0 ≤ x_104.toInt ∧ x_104.toInt ≤ 40) → rA ar_105 → fA [16, 73] ar_101 ar_105 → sW ar_105 → vM fv_99 ar_105 → va_P (dC, dI) vwCl (wsM h ad cA fv_99 wd_100 ar_105) H → va_S (aM h ad s.heap.size) s.heap H locs → lv_has ls 5 [(0, .ref h), (2, .int r_96), (3, .int x_104)] → W p l e R9 s m a9 below meth c H locs 0 0 Q9 (F0 m 176 ls [])) ?_ (fun hj_111 => ?_)
                          · intro n_109
                            induction n_109 with
                            | zero => intro x_104 ar_105 H locs ls fu_110 i_x_104 hA_ar_105 fa_106 hp_107 hp_108; exfalso; omega
                            | succ n_109 ih_109 =>
                              intro x_104 ar_105 H locs ls fu_110 i_x_104 hA_ar_105 fa_106 hp_107 hp_108 hP hS hl
                              refine lv_iload_n hx hb dX12_goThrough_176 rfl (lv_at hl 2 rfl) ?_
                              refine lv_aload_n hx hb dX12_goThrough_177 rfl (lv_at hl 0 rfl) ?_
                              refine gM_32 hx hb htg hown hK hP dX12_goThrough_178 ?_
                              refine my_ti (y := fv 32) ((fr_102 32 rfl).trans ((fr_69 32 rfl).trans ((congrFun efv_67 32).trans ((fr_65 32 rfl).trans ((congrFun efv_1 32)))))) ?_
                              refine lv_icmp_ge (tgt := 324) hx hb dX12_goThrough_181 (by decide) (fun c_112 => ?_) (fun c_112 => ?_)
                              · skip
                                refine lv_aload_n hx hb dX12_goThrough_324 rfl (lv_at hl 0 rfl) ?_
                                refine lv_iconst (v := (-1)) hx hb dX12_goThrough_325 (by decide) ?_
                                refine pM_84 hx hb htg hown hK hP hS hd dX12_goThrough_326 (fun H locs fv_113 efv_113 hP hS => ?_)
                                have hF_fv_113 : rF fv_113 := rF_put hF_fv_99 efv_113 (iv_any _)
                                exact W.vret hx hb hr (fun t ht hW => ⟨⟨(fv_113, wd_100, ar_105), rfl, ⟨hF_fv_113, hA_ar_105, (fM_put (fM_call (fM_call (fM_put (fM_call (fM_put (fM_rf [8, 36, 66, 84, 85, 87] _) efv_1 (by decide)) fr_65 (by decide)) efv_67 (by decide)) fr_69 (by decide)) fr_102 (by decide)) efv_113 (by decide)), (fA_call (fA_call (fA_call (fA_call (fA_call (fA_call (fA_call (fA_rf [4, 15, 16, 18, 24, 64, 65, 68, 69, 70, 71, 72, 73, 74, 75, 76, 77, 78, 79, 80, 82, 83] _) fa_4 (by decide)) fa_24 (by decide)) fa_47 (by decide)) fa_66 (by decide)) fa_71 (by decide)) fa_103 (by decide)) fa_106 (by decide)), hp_107, trivial⟩, ⟨by rw [ht]; exact hP, va_K.moved hW.alike hK⟩⟩, hS.F ht⟩) hS.2.2 dX12_goThrough_329
                              · skip
                                have i_114 : 0 ≤ x_104.toInt ∧ x_104.toInt ≤ 39 := iv_lt1 i_x_104 i_30 (Int32.not_le.mp c_112)
                                have i_115 : 1 ≤ (fv 32).toInt ∧ (fv 32).toInt ≤ 40 := iv_lt2 i_x_104 i_30 (Int32.not_le.mp c_112)
                                refine lv_aload_n hx hb dX12_goThrough_184 rfl (lv_at hl 0 rfl) ?_
                                refine gM_73 hx hb htg hown hK hP dX12_goThrough_185 ?_
                                refine lv_iload_n hx hb dX12_goThrough_188 rfl (lv_at hl 2 rfl) ?_
                                refine lv_aload_n hx hb dX12_goThrough_189 rfl (lv_at hl 0 rfl) ?_
                                refine gM_72 hx hb htg hown hK hP dX12_goThrough_190 ?_
                                refine lv_iload_n hx hb dX12_goThrough_193 rfl (lv_at hl 2 rfl) ?_
                                refine lM_72 hx hb hK hP (iv_in i_114 (by decide) (by decide)) dX12_goThrough_194 (fun v_116 ev_116 => ?_)
                                refine lv_iconst (v := (-1)) hx hb dX12_goThrough_195 (by decide) ?_
                                refine my_cut (P := fun R9 a9 Q9 => ∀ (x_129 : Int32) (H : Heap) (locs : List Loc) (ls : Array Slot), va_P (dC, dI) vwCl (wsM h ad cA fv_99 wd_100 ar_105) H → va_S (aM h ad s.heap.size) s.heap H locs → lv_has ls 5 [(0, .ref h), (2, .int r_96), (3, .int x_104)] → W p l e R9 s m a9 below meth c H locs 0 0 Q9 (F0 m 244 ls [.int x_129, .int x_104, .ref (ad 73)])) ?_ (fun hj_130 => ?_)
                                · intro x_129 H locs ls  hP hS hl
                                  refine sM_73 hx hb hK hP hS hd (iv_in i_114 (by decide) (by decide)) dX12_goThrough_244 (fun H locs ar_131 ear_131 hP hS => ?_)
                                  have hA_ar_131 : rA ar_131 := rA_put hA_ar_105 ear_131 (iv_any _)
                                  refine lv_aload_n hx hb dX12_goThrough_245 rfl (lv_at hl 0 rfl) ?_
                                  refine gM_11 hx hb htg hown hK hP dX12_goThrough_246 ?_
                                  refine lv_iload_n hx hb dX12_goThrough_249 rfl (lv_at hl 2 rfl) ?_
                                  refine lM_11 hx hb hK hP (iv_in i_114 (by decide) (by decide)) dX12_goThrough_250 (fun v_132 ev_132 => ?_)
                                  refine lv_iload_n hx hb dX12_goThrough_251 rfl (lv_at hl 1 rfl) ?_
                                  refine lv_iconst (v := (-1)) hx hb dX12_goThrough_252 (by decide) ?_
                                  refine my_cut (P := fun R9 a9 Q9 => ∀ (x_137 : Int32) (H : Heap) (locs : List Loc) (ls : Array Slot), va_P (dC, dI) vwCl (wsM h ad cA fv_99 wd_100 ar_131) H → va_S (aM h ad s.heap.size) s.heap H locs → lv_has ls 5 [(0, .ref h), (2, .int r_96), (3, .int x_104)] → W p l e R9 s m a9 below meth c H locs 0 0 Q9 (F0 m 266 ls [.int x_137, .int v_132])) ?_ (fun hj_138 => ?_)
                                  · intro x_137 H locs ls  hP hS hl
                                    refine lv_aload_n hx hb dX12_goThrough_266 rfl (lv_at hl 0 rfl) ?_
                                    refine gM_73 hx hb htg hown hK hP dX12_goThrough_267 ?_
                                    refine lv_iload_n hx hb dX12_goThrough_270 rfl (lv_at hl 2 rfl) ?_
                                    refine lM_73 hx hb hK hP (iv_in i_114 (by decide) (by decide)) dX12_goThrough_271 (fun v_139 ev_139 => ?_)
                                    refine lv_bipush (v := 10) hx hb dX12_goThrough_272 (by decide) ?_
                                    refine lv_idiv hx hb dX12_goThrough_274 (by decide) ?_
                                    refine lv_topi (fun v_140 ev_140 => ?_)
                                    refine lv_imul hx hb dX12_goThrough_275 ?_
                                    refine lv_topi (fun v_141 ev_141 => ?_)
                                    refine lv_isub hx hb dX12_goThrough_276 ?_
                                    refine lv_topi (fun v_142 ev_142 => ?_)
                                    refine lv_istore (lv' := [(4, .int v_142), (0, .ref h), (2, .int r_96), (3, .int x_104)]) hx hb dX12_goThrough_277 hl (by decide) rfl (fun ls hl => ?_)
                                    refine lv_aload_n hx hb dX12_goThrough_279 rfl (lv_at hl 1 rfl) ?_
                                    refine gM_16 hx hb htg hown hK hP dX12_goThrough_280 ?_
                                    refine lv_iload_n hx hb dX12_goThrough_283 rfl (lv_at hl 3 rfl) ?_
                                    refine lv_dup2_11 hx hb dX12_goThrough_284 rfl rfl ?_
                                    refine lM_16 hx hb hK hP (iv_in i_114 (by decide) (by decide)) dX12_goThrough_285 (fun v_143 ev_143 => ?_)
                                    refine lv_iload hx hb dX12_goThrough_286 (lv_at hl 0 rfl) ?_
                                    refine my_cut (P := fun R9 a9 Q9 => ∀ (x_147 : Int32) (H : Heap) (locs : List Loc) (ls : Array Slot), (0 ≤ x_147.toInt ∧ x_147.toInt ≤ 2147483647) → va_P (dC, dI) vwCl (wsM h ad cA fv_99 wd_100 ar_131) H → va_S (aM h ad s.heap.size) s.heap H locs → lv_has ls 5 [(0, .ref h), (2, .int r_96), (3, .int x_104)] → W p l e R9 s m a9 below meth c H locs 0 0 Q9 (F0 m 297 ls [.int x_147, .int v_143, .int x_104, .ref (ad 16)])) ?_ (fun hj_148 => ?_)
                                    · intro x_147 H locs ls i_x_147 hP hS hl
                                      refine lv_iadd hx hb dX12_goThrough_297 ?_
                                      refine lv_topi (fun v_149 ev_149 => ?_)
                                      refine sM_16 hx hb hK hP hS hd (iv_in i_114 (by decide) (by decide)) dX12_goThrough_298 (fun H locs ar_150 ear_150 hP hS => ?_)
                                      have hA_ar_150 : rA ar_150 := rA_put hA_ar_131 ear_150 (iv_any _)
                                      refine lv_aload_n hx hb dX12_goThrough_299 rfl (lv_at hl 0 rfl) ?_
                                      refine gM_16 hx hb htg hown hK hP dX12_goThrough_300 ?_
                                      refine lv_iload_n hx hb dX12_goThrough_303 rfl (lv_at hl 2 rfl) ?_
                                      refine lM_16 hx hb hK hP (iv_in i_114 (by decide) (by decide)) dX12_goThrough_304 (fun v_151 ev_151 => ?_)
                                      refine lv_ldc hx hb hown (htg (.constant RX12 225 100000) kw_7_232) dX12_goThrough_305 ?_
                                      refine my_cut (P := fun R9 a9 Q9 => ∀ (ar_156 : Nat → Nat → Int32) (H : Heap) (locs : List Loc) (ls : Array Slot), rA ar_156 → fA [16] ar_150 ar_156 → sW ar_156 → vM fv_99 ar_156 → va_P (dC, dI) vwCl (wsM h ad cA fv_99 wd_100 ar_156) H → va_S (aM h ad s.heap.size) s.heap H locs → lv_has ls 5 [(0, .ref h), (2, .int r_96), (3, .int x_104)] → W p l e R9 s m a9 below meth c H locs 0 0 Q9 (F0 m 318 ls [])) ?_ (fun hj_160 => ?_)
                                      · intro ar_156 H locs ls hA_ar_156 fa_157 hp_158 hp_159 hP hS hl
                                        obtain ⟨v_161, ev_161⟩ : ∃ z : Int32, z = x_104 + 1 := ⟨_, rfl⟩
                                        refine lv_iinc (v := v_161) (lv' := [(3, .int v_161), (0, .ref h), (2, .int r_96)]) hx hb dX12_goThrough_318 hl (k := 2) rfl (by rw [ev_161]; rfl) (by decide) rfl (fun ls hl => ?_)
                                        have t_162 : v_161.toInt = x_104.toInt + 1 ∧ 1 ≤ v_161.toInt ∧ v_161.toInt ≤ 40 := iv_addc ev_161 i_114 (by decide) (by decide) (by decide)
                                        refine lv_goto (tgt := 176) hx hb dX12_goThrough_321 (by decide) ?_
                                        exact ih_109 v_161 ar_156 _ _ ls (by omega) (iv_w t_162.2 (by decide) (by decide)) hA_ar_156 (fA_call (fA_put (fA_put (fA_call (fA_rf [16, 73] _) fa_106 (by decide)) ear_131 (by decide)) ear_150 (by decide)) fa_157 (by decide)) hp_158 hp_159 hP hS (lv_sub hl [1, 2, 0] rfl)
                                      · skip
                                        refine lv_icmp_le (tgt := 318) hx hb dX12_goThrough_307 (by decide) (fun c_152 => ?_) (fun c_152 => ?_)
                                        · skip
                                          have i_153 : (-2147483648) ≤ v_151.toInt ∧ v_151.toInt ≤ 100000 := iv_le1 (iv_any v_151) (⟨by decide, by decide⟩ : (100000 : Int) ≤ (100000 : Int32).toInt ∧ (100000 : Int32).toInt ≤ 100000) c_152
                                          exact hj_160 ar_150 _ _ ls hA_ar_150 (fA_rf [16] _) (sW_fr (sW_fr hp_107 (fA_put (fA_rf [73] _) ear_131 (by decide)) rfl rfl) (fA_put (fA_rf [16] _) ear_150 (by decide)) rfl rfl) (vM_fr (vM_fr hp_108 (fM_rf [] _) (fA_put (fA_rf [73] _) ear_131 (by decide)) rfl rfl rfl rfl rfl) (fM_rf [] _) (fA_put (fA_rf [16] _) ear_150 (by decide)) rfl rfl rfl rfl rfl) hP hS (lv_sub hl [0, 1, 2] rfl)
                                        · skip
                                          have i_154 : 100001 ≤ v_151.toInt ∧ v_151.toInt ≤ 2147483647 := iv_lt2 (⟨by decide, by decide⟩ : (100000 : Int) ≤ (100000 : Int32).toInt ∧ (100000 : Int32).toInt ≤ 100000) (iv_any v_151) (Int32.not_le.mp c_152)
                                          refine lv_aload_n hx hb dX12_goThrough_310 rfl (lv_at hl 0 rfl) ?_
                                          refine gM_16 hx hb htg hown hK hP dX12_goThrough_311 ?_
                                          refine lv_iload_n hx hb dX12_goThrough_314 rfl (lv_at hl 2 rfl) ?_
                                          refine lv_ldc hx hb hown (htg (.constant RX12 225 100000) kw_7_232) dX12_goThrough_315 ?_
                                          refine sM_16 hx hb hK hP hS hd (iv_in i_114 (by decide) (by decide)) dX12_goThrough_317 (fun H locs ar_155 ear_155 hP hS => ?_)
                                          have hA_ar_155 : rA ar_155 := rA_put hA_ar_150 ear_155 (iv_any _)
                                          exact hj_160 ar_155 _ _ ls hA_ar_155 (fA_put (fA_rf [16] _) ear_155 (by decide)) (sW_fr (sW_fr hp_107 (fA_put (fA_rf [73] _) ear_131 (by decide)) rfl rfl) (fA_put (fA_put (fA_rf [16] _) ear_150 (by decide)) ear_155 (by decide)) rfl rfl) (vM_fr (vM_fr hp_108 (fM_rf [] _) (fA_put (fA_rf [73] _) ear_131 (by decide)) rfl rfl rfl rfl rfl) (fM_rf [] _) (fA_put (fA_put (fA_rf [16] _) ear_150 (by decide)) ear_155 (by decide)) rfl rfl rfl rfl rfl) hP hS (lv_sub hl [0, 1, 2] rfl)
                                    · skip
                                      refine lv_if_ge (tgt := 295) hx hb dX12_goThrough_288 (by decide) (fun c_144 => ?_) (fun c_144 => ?_)
                                      · skip
                                        have i_145 : 0 ≤ v_142.toInt ∧ v_142.toInt ≤ 2147483647 := iv_le2 (⟨by decide, by decide⟩ : (0 : Int) ≤ (0 : Int32).toInt ∧ (0 : Int32).toInt ≤ 0) (iv_any v_142) c_144
                                        refine lv_iload hx hb dX12_goThrough_295 (lv_at hl 0 rfl) ?_
                                        exact hj_148 v_142 _ _ ls i_145 hP hS (lv_sub hl [1, 2, 3] rfl)
                                      · skip
                                        have i_146 : (-2147483648) ≤ v_142.toInt ∧ v_142.toInt ≤ (-1) := iv_lt1 (iv_any v_142) (⟨by decide, by decide⟩ : (0 : Int) ≤ (0 : Int32).toInt ∧ (0 : Int32).toInt ≤ 0) (Int32.not_le.mp c_144)
                                        refine lv_iconst (v := 0) hx hb dX12_goThrough_291 (by decide) ?_
                                        refine lv_goto (tgt := 297) hx hb dX12_goThrough_292 (by decide) ?_
                                        exact hj_148 0 _ _ ls (iv_w (⟨by decide, by decide⟩ : (0 : Int) ≤ (0 : Int32).toInt ∧ (0 : Int32).toInt ≤ 0) (by decide) (by decide)) hP hS (lv_sub hl [1, 2, 3] rfl)
                                  · skip
                                    refine lv_icmp_ne (tgt := 260) hx hb dX12_goThrough_253 (by decide) (fun c_133 => ?_) (fun c_133 => ?_)
                                    · skip
                                      have i_134 : 0 ≤ r_96.toInt ∧ r_96.toInt ≤ 9 := iv_nel p_97 (by decide) c_133
                                      refine lv_aload_n hx hb dX12_goThrough_260 rfl (lv_at hl 0 rfl) ?_
                                      refine gM_48 hx hb htg hown hK hP dX12_goThrough_261 ?_
                                      refine lv_iload_n hx hb dX12_goThrough_264 rfl (lv_at hl 1 rfl) ?_
                                      refine lM_48 hx hb hK hP (iv_in i_134 (by decide) (by decide)) dX12_goThrough_265 (fun v_135 ev_135 => ?_)
                                      exact hj_138 v_135 _ _ ls  hP hS (lv_sub hl [0, 1, 2] rfl)
                                    · skip
                                      have i_136 : (-1) ≤ r_96.toInt ∧ r_96.toInt ≤ (-1) := iv_eq1 (⟨by decide, by decide⟩ : (-1 : Int) ≤ ((-1) : Int32).toInt ∧ ((-1) : Int32).toInt ≤ -1) c_133
                                      refine lv_iconst (v := 0) hx hb dX12_goThrough_256 (by decide) ?_
                                      refine lv_goto (tgt := 266) hx hb dX12_goThrough_257 (by decide) ?_
                                      exact hj_138 0 _ _ ls  hP hS (lv_sub hl [0, 1, 2] rfl)
                                · skip
                                  refine lv_icmp_ne (tgt := 212) hx hb dX12_goThrough_196 (by decide) (fun c_117 => ?_) (fun c_117 => ?_)
                                  · skip
                                    refine lv_aload_n hx hb dX12_goThrough_212 rfl (lv_at hl 0 rfl) ?_
                                    refine gM_72 hx hb htg hown hK hP dX12_goThrough_213 ?_
                                    refine lv_iload_n hx hb dX12_goThrough_216 rfl (lv_at hl 2 rfl) ?_
                                    refine lM_72 hx hb hK hP (iv_in i_114 (by decide) (by decide)) dX12_goThrough_217 (fun v_118 ev_118 => ?_)
                                    obtain rfl : v_116 = v_118 := ev_116.trans ev_118.symm
                                    refine lv_aload_n hx hb dX12_goThrough_218 rfl (lv_at hl 0 rfl) ?_
                                    refine gM_13 hx hb htg hown hK hP dX12_goThrough_219 ?_
                                    refine lv_iload_n hx hb dX12_goThrough_222 rfl (lv_at hl 2 rfl) ?_
                                    refine lM_13 hx hb hK hP (iv_in i_114 (by decide) (by decide)) dX12_goThrough_223 (fun v_119 ev_119 => ?_)
                                    refine lv_icmp_le (tgt := 243) hx hb dX12_goThrough_224 (by decide) (fun c_120 => ?_) (fun c_120 => ?_)
                                    · skip
                                      refine lv_iconst (v := 0) hx hb dX12_goThrough_243 (by decide) ?_
                                      exact hj_130 0 _ _ ls  hP hS (lv_sub hl [0, 1, 2] rfl)
                                    · skip
                                      have i_121 : (-2147483648) ≤ v_119.toInt ∧ v_119.toInt ≤ 2147483646 := iv_lt1 (iv_any v_119) (iv_any v_116) (Int32.not_le.mp c_120)
                                      have i_122 : (-2147483647) ≤ v_116.toInt ∧ v_116.toInt ≤ 2147483647 := iv_lt2 (iv_any v_119) (iv_any v_116) (Int32.not_le.mp c_120)
                                      refine lv_aload_n hx hb dX12_goThrough_227 rfl (lv_at hl 0 rfl) ?_
                                      refine gM_72 hx hb htg hown hK hP dX12_goThrough_228 ?_
                                      refine lv_iload_n hx hb dX12_goThrough_231 rfl (lv_at hl 2 rfl) ?_
                                      refine lM_72 hx hb hK hP (iv_in i_114 (by decide) (by decide)) dX12_goThrough_232 (fun v_123 ev_123 => ?_)
                                      obtain rfl : v_116 = v_123 := ev_116.trans ev_123.symm
                                      refine lv_aload_n hx hb dX12_goThrough_233 rfl (lv_at hl 0 rfl) ?_
                                      refine gM_13 hx hb htg hown hK hP dX12_goThrough_234 ?_
                                      refine lv_iload_n hx hb dX12_goThrough_237 rfl (lv_at hl 2 rfl) ?_
                                      refine lM_13 hx hb hK hP (iv_in i_114 (by decide) (by decide)) dX12_goThrough_238 (fun v_124 ev_124 => ?_)
                                      obtain rfl : v_119 = v_124 := ev_119.trans ev_124.symm
                                      refine lv_isub hx hb dX12_goThrough_239 ?_
                                      refine lv_topi (fun v_125 ev_125 => ?_)
                                      refine lv_goto (tgt := 244) hx hb dX12_goThrough_240 (by decide) ?_
                                      exact hj_130 v_125 _ _ ls  hP hS (lv_sub hl [0, 1, 2] rfl)
                                  · skip
                                    have i_126 : (-1) ≤ v_116.toInt ∧ v_116.toInt ≤ (-1) := iv_eq1 (⟨by decide, by decide⟩ : (-1 : Int) ≤ ((-1) : Int32).toInt ∧ ((-1) : Int32).toInt ≤ -1) c_117
                                    refine lv_sipush (v := 840) hx hb dX12_goThrough_199 (by decide) ?_
                                    refine lv_aload_n hx hb dX12_goThrough_202 rfl (lv_at hl 0 rfl) ?_
                                    refine gM_13 hx hb htg hown hK hP dX12_goThrough_203 ?_
                                    refine lv_iload_n hx hb dX12_goThrough_206 rfl (lv_at hl 2 rfl) ?_
                                    refine lM_13 hx hb hK hP (iv_in i_114 (by decide) (by decide)) dX12_goThrough_207 (fun v_127 ev_127 => ?_)
                                    refine lv_isub hx hb dX12_goThrough_208 ?_
                                    refine lv_topi (fun v_128 ev_128 => ?_)
                                    refine lv_goto (tgt := 244) hx hb dX12_goThrough_209 (by decide) ?_
                                    exact hj_130 v_128 _ _ ls  hP hS (lv_sub hl [0, 1, 2] rfl)
                          · skip
                            have z_164 : (0 : Int32).toInt = 0 := by decide
                            exact hj_111 41 0 ar_101 _ _ ls (by first | decide | omega) (iv_w (⟨by decide, by decide⟩ : (0 : Int) ≤ (0 : Int32).toInt ∧ (0 : Int32).toInt ≤ 0) (by decide) (by decide)) hA_ar_101 (fA_rf [16, 73] _) (sW_fr hp_73 (fA_call (fA_rf [] _) fa_103 (by decide)) rfl rfl) (vM_fr hp_74 (fM_call (fM_rf [] _) fr_102 (by decide)) (fA_call (fA_rf [] _) fa_103 (by decide)) rfl rfl rfl rfl rfl) hP hS (lv_sub hl [2, 1, 0] rfl)
                        · skip
                          have i_82 : 0 ≤ (fv_68 85).toInt ∧ (fv_68 85).toInt ≤ 839 := iv_le1 i_79 (⟨by decide, by decide⟩ : (839 : Int) ≤ (839 : Int32).toInt ∧ (839 : Int32).toInt ≤ 839) (Int32.not_lt.mp c_80)
                          refine lv_aload_n hx hb dX12_goThrough_152 rfl (lv_at hl 0 rfl) ?_
                          refine va_callv (va_runV (As := []) (rest := []) ⟨hx, hb, hml, hown, hts⟩ (m_step l dC dI H.size h ad cA hd fv_68 wd_72 ar_70 hF_fv_68 hA_ar_70 hp_73 hp_74) (cwV 0 hts (gV kw_8_184 kw_8_186 kw_p_86 kw_1_15 kw_8_187) rfl rfl rfl (by decide +kernel) ⟨Nat.le_of_ble_eq_true rfl, Nat.le_of_ble_eq_true rfl⟩) ⟨fun a U g mk q => ⟨q.1, q.2.1, q.2.2.1, va_K.moved (u := U) (U := U.calling g mk a) (Vm.Alike.refl U.vm) q.2.2.2⟩, va_recv hK hP (ci := 12) (q0 := 0) rfl rfl, fun U hU hW => ⟨rfl, by rw [hU], by rw [hU]; exact hP, va_K.moved hW.alike hK⟩⟩ rfl rfl hl.1 rfl (lv_room (Nat.le_of_ble_eq_true rfl)) dX12_goThrough_153 ⟨Nat.le_of_ble_eq_true rfl, Nat.le_of_ble_eq_true rfl⟩) hS (fun q _ h9 => aM_up hS q h9) (aM_up hS) (fun u t H1 locs ht _ hw hB _ hk1 hS => ?_)
                          obtain ⟨fv_85, wd_86, ar_87⟩ := u
                          obtain ⟨hF_fv_85, hA_ar_87, fr_88, fa_89, p_84, -⟩ := hw
                          have hP : va_P (dC, dI) vwCl (wsM h ad cA fv_85 wd_86 ar_87) H1 := by have h9 := hB.1; rw [ht] at h9; exact h9
                          have fr_88 : fM [8, 36, 66] fv_68 fv_85 := fr_88
                          have fa_89 : fA [4, 15, 16, 18, 24, 64, 65, 68, 69, 70, 71, 72, 74, 75, 76, 77, 78, 79, 80, 82] ar_70 ar_87 := fa_89
                          have p_84 : sW ar_87 := p_84
                          generalize H1 = H at hP hS ⊢
                          refine lv_aload_n hx hb dX12_goThrough_156 rfl (lv_at hl 0 rfl) ?_
                          refine lv_dup hx hb dX12_goThrough_157 rfl ?_
                          refine gM_85 hx hb htg hown hK hP dX12_goThrough_158 ?_
                          refine my_ti (y := fv_68 85) ((fr_88 85 rfl)) ?_
                          refine lv_iconst (v := 1) hx hb dX12_goThrough_161 (by decide) ?_
                          refine lv_iadd hx hb dX12_goThrough_162 ?_
                          refine lv_topi (fun v_90 ev_90 => ?_)
                          have t_91 : v_90.toInt = (fv_68 85).toInt + 1 ∧ 1 ≤ v_90.toInt ∧ v_90.toInt ≤ 840 := iv_addc ev_90 i_82 (by decide) (by decide) (by decide)
                          refine pM_85 hx hb htg hown hK hP hS hd dX12_goThrough_163 (fun H locs fv_93 efv_93 hP hS => ?_)
                          have hF_fv_93 : rF fv_93 := rF_put hF_fv_85 efv_93 (iv_w t_91.2 (by decide) (by decide))
                          refine lv_goto (tgt := 142) hx hb dX12_goThrough_166 (by decide) ?_
                          have z_165 : (fv_93 85).toInt = v_90.toInt := congrArg Int32.toInt ((congrFun efv_93 85))
                          have z_166 : 0 ≤ (fv_93 85).toInt ∧ (fv_93 85).toInt ≤ 840 := hF_fv_93 85
                          exact ih_76 fv_93 ar_87 wd_86 _ _ ls (by omega) hF_fv_93 (fM_put (fM_call (fM_call (fM_rf [8, 36, 66, 85] _) fr_69 (by decide)) fr_88 (by decide)) efv_93 (by decide)) hA_ar_87 (fA_call (fA_call (fA_rf [4, 15, 16, 18, 24, 64, 65, 68, 69, 70, 71, 72, 74, 75, 76, 77, 78, 79, 80, 82] _) fa_71 (by decide)) fa_89 (by decide)) p_84 (vM_fr hp_74 (fM_put (fM_call (fM_rf [8, 36, 66, 85] _) fr_88 (by decide)) efv_93 (by decide)) (fA_call (fA_rf [4, 15, 16, 18, 24, 64, 65, 68, 69, 70, 71, 72, 74, 75, 76, 77, 78, 79, 80, 82] _) fa_89 (by decide)) rfl rfl rfl rfl rfl) (by omega) hP hS (lv_sub hl [0] rfl)
                    · skip
                      have z_167 : (fv_67 85).toInt = (0 : Int32).toInt := congrArg Int32.toInt ((congrFun efv_67 85))
                      have z_168 : (0 : Int32).toInt = 0 := by decide
                      have z_169 : 0 ≤ (fv_67 85).toInt ∧ (fv_67 85).toInt ≤ 840 := hF_fv_67 85
                      exact hj_78 841 fv_67 ar_64 wd_63 _ _ ls (by omega) hF_fv_67 (fM_rf [8, 36, 66, 85] _) hA_ar_64 (fA_rf [4, 15, 16, 18, 24, 64, 65, 68, 69, 70, 71, 72, 74, 75, 76, 77, 78, 79, 80, 82] _) (sW_fr hp_48 (fA_call (fA_rf [83] _) fa_66 (by decide)) rfl rfl) (vM_fr hp_49 (fM_put (fM_call (fM_rf [85, 87] _) fr_65 (by decide)) efv_67 (by decide)) (fA_call (fA_rf [83] _) fa_66 (by decide)) rfl rfl rfl rfl rfl) (by omega) hP hS (lv_sub hl [0] rfl)
                  · skip
                    have i_55 : 0 ≤ x_45.toInt ∧ x_45.toInt ≤ 79 := iv_lt1 i_x_45 i_53 (Int32.not_le.mp c_54)
                    have i_56 : 1 ≤ (fv 35).toInt ∧ (fv 35).toInt ≤ 80 := iv_lt2 i_x_45 i_53 (Int32.not_le.mp c_54)
                    refine lv_aload_n hx hb dX12_goThrough_120 rfl (lv_at hl 0 rfl) ?_
                    refine gM_80 hx hb htg hown hK hP dX12_goThrough_121 ?_
                    refine lv_iload_n hx hb dX12_goThrough_124 rfl (lv_at hl 1 rfl) ?_
                    refine lv_iconst (v := (-1)) hx hb dX12_goThrough_125 (by decide) ?_
                    refine sM_80 hx hb hK hP hS hd (iv_in i_55 (by decide) (by decide)) dX12_goThrough_126 (fun H locs ar_57 ear_57 hP hS => ?_)
                    have hA_ar_57 : rA ar_57 := rA_put hA_ar_46 ear_57 (iv_any _)
                    obtain ⟨v_58, ev_58⟩ : ∃ z : Int32, z = x_45 + 1 := ⟨_, rfl⟩
                    refine lv_iinc (v := v_58) (lv' := [(2, .int v_58), (0, .ref h)]) hx hb dX12_goThrough_127 hl (k := 1) rfl (by rw [ev_58]; rfl) (by decide) rfl (fun ls hl => ?_)
                    have t_59 : v_58.toInt = x_45.toInt + 1 ∧ 1 ≤ v_58.toInt ∧ v_58.toInt ≤ 80 := iv_addc ev_58 i_55 (by decide) (by decide) (by decide)
                    refine lv_goto (tgt := 112) hx hb dX12_goThrough_130 (by decide) ?_
                    exact ih_50 v_58 ar_57 _ _ ls (by omega) (iv_w t_59.2 (by decide) (by decide)) hA_ar_57 (fA_put (fA_call (fA_rf [80] _) fa_47 (by decide)) ear_57 (by decide)) (sW_fr hp_48 (fA_put (fA_rf [80] _) ear_57 (by decide)) rfl rfl) (vM_fr hp_49 (fM_rf [] _) (fA_put (fA_rf [80] _) ear_57 (by decide)) rfl rfl rfl rfl rfl) hP hS (lv_sub hl [1, 0] rfl)
              · skip
                have z_170 : (0 : Int32).toInt = 0 := by decide
                exact hj_52 81 0 ar_23 _ _ ls (by first | decide | omega) (iv_w (⟨by decide, by decide⟩ : (0 : Int) ≤ (0 : Int32).toInt ∧ (0 : Int32).toInt ≤ 0) (by decide) (by decide)) hA_ar_23 (fA_rf [80] _) hp_25 hp_26 hP hS (lv_sub hl [1, 0] rfl)
            · skip
              have i_32 : 0 ≤ x_22.toInt ∧ x_22.toInt ≤ 39 := iv_lt1 i_x_22 i_30 (Int32.not_le.mp c_31)
              have i_33 : 1 ≤ (fv 32).toInt ∧ (fv 32).toInt ≤ 40 := iv_lt2 i_x_22 i_30 (Int32.not_le.mp c_31)
              refine lv_aload_n hx hb dX12_goThrough_64 rfl (lv_at hl 0 rfl) ?_
              refine gM_68 hx hb htg hown hK hP dX12_goThrough_65 ?_
              refine lv_iload_n hx hb dX12_goThrough_68 rfl (lv_at hl 1 rfl) ?_
              refine lv_iconst (v := 0) hx hb dX12_goThrough_69 (by decide) ?_
              refine sM_68 hx hb hK hP hS hd (iv_in i_32 (by decide) (by decide)) dX12_goThrough_70 (fun H locs ar_34 ear_34 hP hS => ?_)
              have hA_ar_34 : rA ar_34 := rA_put hA_ar_23 ear_34 (iv_any _)
              have hp_35 : sW ar_34 := sW_68 hp_25 ear_34 (Or.inl (Int.lt_of_le_of_lt ((⟨by decide, by decide⟩ : (0 : Int) ≤ (0 : Int32).toInt ∧ (0 : Int32).toInt ≤ 0)).2 (by decide)))
              refine lv_aload_n hx hb dX12_goThrough_71 rfl (lv_at hl 0 rfl) ?_
              refine gM_69 hx hb htg hown hK hP dX12_goThrough_72 ?_
              refine lv_iload_n hx hb dX12_goThrough_75 rfl (lv_at hl 1 rfl) ?_
              refine lv_aload_n hx hb dX12_goThrough_76 rfl (lv_at hl 0 rfl) ?_
              refine gM_9 hx hb htg hown hK hP dX12_goThrough_77 ?_
              refine lv_iload_n hx hb dX12_goThrough_80 rfl (lv_at hl 1 rfl) ?_
              refine lM_9 hx hb hK hP (iv_in i_32 (by decide) (by decide)) dX12_goThrough_81 (fun v_36 ev_36 => ?_)
              have i_37 : 0 ≤ v_36.toInt ∧ v_36.toInt ≤ 11 := ev_36 ▸ hA_ar_34 9 _
              refine sM_69 hx hb hK hP hS hd (iv_in i_32 (by decide) (by decide)) dX12_goThrough_82 (fun H locs ar_38 ear_38 hP hS => ?_)
              have hA_ar_38 : rA ar_38 := rA_put hA_ar_34 ear_38 i_37
              refine lv_aload_n hx hb dX12_goThrough_83 rfl (lv_at hl 0 rfl) ?_
              refine gM_72 hx hb htg hown hK hP dX12_goThrough_84 ?_
              refine lv_iload_n hx hb dX12_goThrough_87 rfl (lv_at hl 1 rfl) ?_
              refine lv_iconst (v := (-1)) hx hb dX12_goThrough_88 (by decide) ?_
              refine sM_72 hx hb hK hP hS hd (iv_in i_32 (by decide) (by decide)) dX12_goThrough_89 (fun H locs ar_39 ear_39 hP hS => ?_)
              have hA_ar_39 : rA ar_39 := rA_put hA_ar_38 ear_39 (iv_any _)
              refine lv_aload_n hx hb dX12_goThrough_90 rfl (lv_at hl 0 rfl) ?_
              refine gM_74 hx hb htg hown hK hP dX12_goThrough_91 ?_
              refine lv_iload_n hx hb dX12_goThrough_94 rfl (lv_at hl 1 rfl) ?_
              refine lv_iconst (v := 0) hx hb dX12_goThrough_95 (by decide) ?_
              refine sM_74 hx hb hK hP hS hd (iv_in i_32 (by decide) (by decide)) dX12_goThrough_96 (fun H locs ar_40 ear_40 hP hS => ?_)
              have hA_ar_40 : rA ar_40 := rA_put hA_ar_39 ear_40 (iv_any _)
              refine lv_aload_n hx hb dX12_goThrough_97 rfl (lv_at hl 0 rfl) ?_
              refine gM_75 hx hb htg hown hK hP dX12_goThrough_98 ?_
              refine lv_iload_n hx hb dX12_goThrough_101 rfl (lv_at hl 1 rfl) ?_
              refine lv_iconst (v := 0) hx hb dX12_goThrough_102 (by decide) ?_
              refine sM_75 hx hb hK hP hS hd (iv_in i_32 (by decide) (by decide)) dX12_goThrough_103 (fun H locs ar_41 ear_41 hP hS => ?_)
              have hA_ar_41 : rA ar_41 := rA_put hA_ar_40 ear_41 (iv_any _)
              obtain ⟨v_42, ev_42⟩ : ∃ z : Int32, z = x_22 + 1 := ⟨_, rfl⟩
              refine lv_iinc (v := v_42) (lv' := [(2, .int v_42), (0, .ref h)]) hx hb dX12_goThrough_104 hl (k := 1) rfl (by rw [ev_42]; rfl) (by decide) rfl (fun ls hl => ?_)
              have t_43 : v_42.toInt = x_22.toInt + 1 ∧ 1 ≤ v_42.toInt ∧ v_42.toInt ≤ 40 := iv_addc ev_42 i_32 (by decide) (by decide) (by decide)
              refine lv_goto (tgt := 56) hx hb dX12_goThrough_107 (by decide) ?_
              exact ih_27 v_42 ar_41 _ _ ls (by omega) (iv_w t_43.2 (by decide) (by decide)) hA_ar_41 (fA_put (fA_put (fA_put (fA_put (fA_put (fA_call (fA_rf [68, 69, 72, 74, 75] _) fa_24 (by decide)) ear_34 (by decide)) ear_38 (by decide)) ear_39 (by decide)) ear_40 (by decide)) ear_41 (by decide)) (sW_fr hp_35 (fA_put (fA_put (fA_put (fA_put (fA_rf [69, 72, 74, 75] _) ear_38 (by decide)) ear_39 (by decide)) ear_40 (by decide)) ear_41 (by decide)) rfl rfl) (vM_fr hp_26 (fM_rf [] _) (fA_put (fA_put (fA_put (fA_put (fA_put (fA_rf [68, 69, 72, 74, 75] _) ear_34 (by decide)) ear_38 (by decide)) ear_39 (by decide)) ear_40 (by decide)) ear_41 (by decide)) rfl rfl rfl rfl rfl) hP hS (lv_sub hl [1, 0] rfl)
        · skip
          have z_171 : (0 : Int32).toInt = 0 := by decide
          exact hj_29 41 0 ar_3 _ _ ls (by first | decide | omega) (iv_w (⟨by decide, by decide⟩ : (0 : Int) ≤ (0 : Int32).toInt ∧ (0 : Int32).toInt ≤ 0) (by decide) (by decide)) hA_ar_3 (fA_rf [68, 69, 72, 74, 75] _) hp_5 hp_6 hP hS (lv_sub hl [1, 0] rfl)
      · skip
        have i_12 : 0 ≤ x_2.toInt ∧ x_2.toInt ≤ 19 := iv_lt1 i_x_2 i_10 (Int32.not_le.mp c_11)
        have i_13 : 1 ≤ (fv 34).toInt ∧ (fv 34).toInt ≤ 20 := iv_lt2 i_x_2 i_10 (Int32.not_le.mp c_11)
        refine lv_aload_n hx hb dX12_goThrough_15 rfl (lv_at hl 0 rfl) ?_
        refine gM_76 hx hb htg hown hK hP dX12_goThrough_16 ?_
        refine lv_iload_n hx hb dX12_goThrough_19 rfl (lv_at hl 1 rfl) ?_
        refine lv_aload_n hx hb dX12_goThrough_20 rfl (lv_at hl 0 rfl) ?_
        refine gM_21 hx hb htg hown hK hP dX12_goThrough_21 ?_
        refine lv_iload_n hx hb dX12_goThrough_24 rfl (lv_at hl 1 rfl) ?_
        refine lM_21 hx hb hK hP (iv_in i_12 (by decide) (by decide)) dX12_goThrough_25 (fun v_14 ev_14 => ?_)
        refine sM_76 hx hb hK hP hS hd (iv_in i_12 (by decide) (by decide)) dX12_goThrough_26 (fun H locs ar_15 ear_15 hP hS => ?_)
        have hA_ar_15 : rA ar_15 := rA_put hA_ar_3 ear_15 (iv_any _)
        refine lv_aload_n hx hb dX12_goThrough_27 rfl (lv_at hl 0 rfl) ?_
        refine gM_77 hx hb htg hown hK hP dX12_goThrough_28 ?_
        refine lv_iload_n hx hb dX12_goThrough_31 rfl (lv_at hl 1 rfl) ?_
        refine lv_iconst (v := (-1)) hx hb dX12_goThrough_32 (by decide) ?_
        refine sM_77 hx hb hK hP hS hd (iv_in i_12 (by decide) (by decide)) dX12_goThrough_33 (fun H locs ar_16 ear_16 hP hS => ?_)
        have hA_ar_16 : rA ar_16 := rA_put hA_ar_15 ear_16 (iv_any _)
        refine lv_aload_n hx hb dX12_goThrough_34 rfl (lv_at hl 0 rfl) ?_
        refine gM_78 hx hb htg hown hK hP dX12_goThrough_35 ?_
        refine lv_iload_n hx hb dX12_goThrough_38 rfl (lv_at hl 1 rfl) ?_
        refine lv_iconst (v := 0) hx hb dX12_goThrough_39 (by decide) ?_
        refine sM_78 hx hb hK hP hS hd (iv_in i_12 (by decide) (by decide)) dX12_goThrough_40 (fun H locs ar_17 ear_17 hP hS => ?_)
        have hA_ar_17 : rA ar_17 := rA_put hA_ar_16 ear_17 (iv_any _)
        refine lv_aload_n hx hb dX12_goThrough_41 rfl (lv_at hl 0 rfl) ?_
        refine gM_79 hx hb htg hown hK hP dX12_goThrough_42 ?_
        refine lv_iload_n hx hb dX12_goThrough_45 rfl (lv_at hl 1 rfl) ?_
        refine lv_iconst (v := 0) hx hb dX12_goThrough_46 (by decide) ?_
        refine sM_79 hx hb hK hP hS hd (iv_in i_12 (by decide) (by decide)) dX12_goThrough_47 (fun H locs ar_18 ear_18 hP hS => ?_)
        have hA_ar_18 : rA ar_18 := rA_put hA_ar_17 ear_18 (iv_any _)
        obtain ⟨v_19, ev_19⟩ : ∃ z : Int32, z = x_2 + 1 := ⟨_, rfl⟩
        refine lv_iinc (v := v_19) (lv' := [(2, .int v_19), (0, .ref h)]) hx hb dX12_goThrough_48 hl (k := 1) rfl (by rw [ev_19]; rfl) (by decide) rfl (fun ls hl => ?_)
        have t_20 : v_19.toInt = x_2.toInt + 1 ∧ 1 ≤ v_19.toInt ∧ v_19.toInt ≤ 20 := iv_addc ev_19 i_12 (by decide) (by decide) (by decide)
        refine lv_goto (tgt := 7) hx hb dX12_goThrough_51 (by decide) ?_
        exact ih_7 v_19 ar_18 _ _ ls (by omega) (iv_w t_20.2 (by decide) (by decide)) hA_ar_18 (fA_put (fA_put (fA_put (fA_put (fA_call (fA_rf [76, 77, 78, 79] _) fa_4 (by decide)) ear_15 (by decide)) ear_16 (by decide)) ear_17 (by decide)) ear_18 (by decide)) (sW_fr hp_5 (fA_put (fA_put (fA_put (fA_put (fA_rf [76, 77, 78, 79] _) ear_15 (by decide)) ear_16 (by decide)) ear_17 (by decide)) ear_18 (by decide)) rfl rfl) (vM_fr hp_6 (fM_rf [] _) (fA_put (fA_put (fA_put (fA_put (fA_rf [76, 77, 78, 79] _) ear_15 (by decide)) ear_16 (by decide)) ear_17 (by decide)) ear_18 (by decide)) rfl rfl rfl rfl rfl) hP hS (lv_sub hl [1, 0] rfl)
  · skip
    have z_172 : (0 : Int32).toInt = 0 := by decide
    exact hj_9 21 0 ar _ _ ls (by first | decide | omega) (iv_w (⟨by decide, by decide⟩ : (0 : Int) ≤ (0 : Int32).toInt ∧ (0 : Int32).toInt ≤ 0) (by decide) (by decide)) hA_ar (fA_rf [76, 77, 78, 79] _) hp_sW (vM_fr hp_vM (fM_put (fM_rf [84] _) efv_1 (by decide)) (fA_rf [] _) rfl rfl rfl rfl rfl) hP hS (lv_sub hl [1, 0] rfl)
set_option maxHeartbeats 4000000 in
set_option maxRecDepth 100000 in
theorem m_morning (l : Launch) (dC : Nat → ClassId) (dI : Nat → Nat → Nat) (sz h : Nat) (ad : Nat → Nat) (cA : Nat → ClassId) (hd : dM h ad) (fv : Nat → Int32) (wd : Int64) (ar : Nat → Nat → Int32) (hF_fv : rF fv) (hA_ar : rA ar) (hp_sW : sW ar) (hp_vM : vM fv ar) : Met l yX12_morning (.code yX12_morning cX12_morning 2 (some .int) :: lw_good) ({ frames := 10, cells := 0, slots := 0, locals := 225 }) (va_Pc [.ref h] (prM dC dI h ad cA fv wd ar sz)) (va_Qi (fun (r : Int32) (u : mS) => rF u.1 ∧ rA u.2.2 ∧ fM [0, 8, 36, 66, 84, 85, 86, 87] fv u.1 ∧ fA [4, 15, 16, 18, 24, 64, 65, 68, 69, 70, 71, 72, 73, 74, 75, 76, 77, 78, 79, 80, 81, 82, 83] ar u.2.2 ∧ (sW u.2.2) ∧ True) (enM dC dI h ad cA) (aM h ad sz)) 0 0 (aM h ad sz) := by
  refine Met.ofW (cc := cX12_morning) (maxL := 2) (ret := (some .int)) (by decide) rfl ?_
  intro p e s m args below meth c s₁ B hml hv
  obtain ⟨rfl, hsz, hP, hK⟩ := hv
  have hx := B.exec
  have hb := B.bytes
  have hr := B.returns
  have hts := atoms_spec (ws := (.code yX12_morning cX12_morning 2 (some .int) :: lw_good)) B.pre
  have htg : ∀ w ∈ lw_good, w.before _ s = true := fun w hw => hts w (List.mem_cons_of_mem _ hw)
  have hown : s.vm.findClass RX12 = some m.cls := findClass_of_methodNamed B.named
  have hlocks := B.notSynchronized
  subst hsz
  have hS : va_S (aM h ad s.heap.size) s.heap s.heap [] := va_S.rf
  have hl := lv_entry ([.ref h]) (n := 2) (Nat.le_of_ble_eq_true rfl)
  rw [lg_entry_eq]
  generalize (lg_sl ([.ref h]) ++ List.replicate (2 - (lg_sl ([.ref h])).length) Slot.unset).toArray = ls at hl ⊢
  have hl : lv_has ls 2 [(0, .ref h)] := hl
  refine lv_aload_n hx hb dX12_morning_0 rfl (lv_at hl 0 rfl) ?_
  refine lv_iconst (v := 0) hx hb dX12_morning_1 (by decide) ?_
  refine pM_0 hx hb htg hown hK hP hS hd dX12_morning_2 (fun H locs fv_1 efv_1 hP hS => ?_)
  have hF_fv_1 : rF fv_1 := rF_put hF_fv efv_1 (iv_any _)
  refine lv_aload_n hx hb dX12_morning_5 rfl (lv_at hl 0 rfl) ?_
  refine gM_86 hx hb htg hown hK hP dX12_morning_6 ?_
  refine my_ti (y := fv 86) ((congrFun efv_1 86)) ?_
  refine lv_aload_n hx hb dX12_morning_9 rfl (lv_at hl 0 rfl) ?_
  refine gM_3 hx hb htg hown hK hP dX12_morning_10 ?_
  refine my_ti (y := fv 3) ((congrFun efv_1 3)) ?_
  have i_2 : 0 ≤ (fv 3).toInt ∧ (fv 3).toInt ≤ 199 := hF_fv 3
  refine lv_icmp_ne (tgt := 18) hx hb dX12_morning_13 (by decide) (fun c_3 => ?_) (fun c_3 => ?_)
  · skip
    refine lv_aload_n hx hb dX12_morning_18 rfl (lv_at hl 0 rfl) ?_
    refine lv_aload_n hx hb dX12_morning_19 rfl (lv_at hl 0 rfl) ?_
    refine gM_3 hx hb htg hown hK hP dX12_morning_20 ?_
    refine my_ti (y := fv 3) ((congrFun efv_1 3)) ?_
    refine pM_86 hx hb htg hown hK hP hS hd dX12_morning_23 (fun H locs fv_4 efv_4 hP hS => ?_)
    have hF_fv_4 : rF fv_4 := rF_put hF_fv_1 efv_4 (iv_any _)
    refine lv_aload_n hx hb dX12_morning_26 rfl (lv_at hl 0 rfl) ?_
    refine lv_iconst (v := (-1)) hx hb dX12_morning_27 (by decide) ?_
    refine va_callv (va_runV (As := [.int (-1)]) (rest := []) ⟨hx, hb, hml, hown, hts⟩ (m_goThrough l dC dI H.size h ad cA hd fv_4 wd ar hF_fv_4 hA_ar (-1) hp_sW (vM_fr hp_vM (fM_put (fM_put (fM_rf [0, 86] _) efv_1 (by decide)) efv_4 (by decide)) (fA_rf [] _) rfl rfl rfl rfl rfl)) (cwV 1 hts (gV kw_8_172 kw_8_174 kw_p_83 kw_1_15 kw_8_175) rfl rfl rfl (by decide +kernel) ⟨Nat.le_of_ble_eq_true rfl, Nat.le_of_ble_eq_true rfl⟩) ⟨fun a U g mk q => ⟨q.1, q.2.1, q.2.2.1, va_K.moved (u := U) (U := U.calling g mk a) (Vm.Alike.refl U.vm) q.2.2.2⟩, va_recv hK hP (ci := 12) (q0 := 0) rfl rfl, fun U hU hW => ⟨rfl, by rw [hU], by rw [hU]; exact hP, va_K.moved hW.alike hK⟩⟩ rfl rfl hl.1 rfl (lv_room (Nat.le_of_ble_eq_true rfl)) dX12_morning_28 ⟨Nat.le_of_ble_eq_true rfl, Nat.le_of_ble_eq_true rfl⟩) hS (fun q _ h9 => aM_up hS q h9) (aM_up hS) (fun u t H1 locs ht _ hw hB _ hk1 hS => ?_)
    obtain ⟨fv_7, wd_8, ar_9⟩ := u
    obtain ⟨hF_fv_7, hA_ar_9, fr_10, fa_11, p_6, -⟩ := hw
    have hP : va_P (dC, dI) vwCl (wsM h ad cA fv_7 wd_8 ar_9) H1 := by have h9 := hB.1; rw [ht] at h9; exact h9
    have fr_10 : fM [8, 36, 66, 84, 85, 87] fv_4 fv_7 := fr_10
    have fa_11 : fA [4, 15, 16, 18, 24, 64, 65, 68, 69, 70, 71, 72, 73, 74, 75, 76, 77, 78, 79, 80, 82, 83] ar ar_9 := fa_11
    have p_6 : sW ar_9 := p_6
    generalize H1 = H at hP hS ⊢
    refine lv_iconst (v := 0) hx hb dX12_morning_31 (by decide) ?_
    refine lv_istore_n (lv' := [(1, .int 0), (0, .ref h)]) hx hb dX12_morning_32 rfl hl (by decide) rfl (fun ls hl => ?_)
    refine my_cut (P := fun R9 a9 Q9 => ∀ (n_17 : Nat) (x_12 : Int32) (ar_13 : Nat → Nat → Int32) (H : Heap) (locs : List Loc) (ls : Array Slot), 80 - x_12.toInt < (n_17 : Int) → (0 ≤ x_12.toInt ∧ x_12.toInt ≤ 80) → rA ar_13 → fA [81] ar_9 ar_13 → sW ar_13 → vM fv_7 ar_13 → va_P (dC, dI) vwCl (wsM h ad cA fv_7 wd_8 ar_13) H → va_S (aM h ad s.heap.size) s.heap H locs → lv_has ls 2 [(0, .ref h), (1, .int x_12)] → W p l e R9 s m a9 below meth c H locs 0 0 Q9 (F0 m 33 ls [])) ?_ (fun hj_19 => ?_)
    · intro n_17
      induction n_17 with
      | zero => intro x_12 ar_13 H locs ls fu_18 i_x_12 hA_ar_13 fa_14 hp_15 hp_16; exfalso; omega
      | succ n_17 ih_17 =>
        intro x_12 ar_13 H locs ls fu_18 i_x_12 hA_ar_13 fa_14 hp_15 hp_16 hP hS hl
        refine lv_iload_n hx hb dX12_morning_33 rfl (lv_at hl 1 rfl) ?_
        refine lv_aload_n hx hb dX12_morning_34 rfl (lv_at hl 0 rfl) ?_
        refine gM_35 hx hb htg hown hK hP dX12_morning_35 ?_
        refine my_ti (y := fv 35) ((fr_10 35 rfl).trans ((congrFun efv_4 35).trans ((congrFun efv_1 35)))) ?_
        have i_20 : 0 ≤ (fv 35).toInt ∧ (fv 35).toInt ≤ 80 := hF_fv 35
        refine lv_icmp_ge (tgt := 59) hx hb dX12_morning_38 (by decide) (fun c_21 => ?_) (fun c_21 => ?_)
        · skip
          refine lv_aload_n hx hb dX12_morning_59 rfl (lv_at hl 0 rfl) ?_
          refine va_calli (va_runV (As := []) (rest := []) ⟨hx, hb, hml, hown, hts⟩ (m_inTime l dC dI H.size h ad cA hd fv_7 wd_8 ar_13 hF_fv_7 hA_ar_13) (cwV 0 hts (gV kw_8_228 kw_8_230 kw_p_97 kw_1_15 kw_8_231) rfl rfl rfl (by decide +kernel) ⟨Nat.le_of_ble_eq_true rfl, Nat.le_of_ble_eq_true rfl⟩) ⟨fun a U g mk q => ⟨q.1, q.2.1, q.2.2.1, va_K.moved (u := U) (U := U.calling g mk a) (Vm.Alike.refl U.vm) q.2.2.2⟩, va_recv hK hP (ci := 12) (q0 := 0) rfl rfl, fun U hU hW => ⟨rfl, by rw [hU], by rw [hU]; exact hP, va_K.moved hW.alike hK⟩⟩ rfl rfl hl.1 rfl (lv_room (Nat.le_of_ble_eq_true rfl)) dX12_morning_60 ⟨Nat.le_of_ble_eq_true rfl, Nat.le_of_ble_eq_true rfl⟩) hS (fun q _ h9 => aM_up hS q h9) (aM_up hS) (fun r_29 u t H1 locs ht _ hw hB _ hk1 hS => ?_)
          obtain ⟨fv_30, wd_31, ar_32⟩ := u
          obtain ⟨hF_fv_30, hA_ar_32, fr_33, fa_34, -⟩ := hw
          have hP : va_P (dC, dI) vwCl (wsM h ad cA fv_30 wd_31 ar_32) H1 := by have h9 := hB.1; rw [ht] at h9; exact h9
          have fr_33 : fM [] fv_7 fv_30 := fr_33
          have fa_34 : fA [] ar_13 ar_32 := fa_34
          generalize H1 = H at hP hS ⊢
          exact W.iret (v := r_29) hx hb hr (fun t ht hW => ⟨⟨r_29, (fv_30, wd_31, ar_32), rfl, ⟨hF_fv_30, hA_ar_32, (fM_call (fM_call (fM_put (fM_put (fM_rf [0, 8, 36, 66, 84, 85, 86, 87] _) efv_1 (by decide)) efv_4 (by decide)) fr_10 (by decide)) fr_33 (by decide)), (fA_call (fA_call (fA_call (fA_rf [4, 15, 16, 18, 24, 64, 65, 68, 69, 70, 71, 72, 73, 74, 75, 76, 77, 78, 79, 80, 81, 82, 83] _) fa_11 (by decide)) fa_14 (by decide)) fa_34 (by decide)), (sW_fr hp_15 (fA_call (fA_rf [] _) fa_34 (by decide)) rfl rfl), trivial⟩, ⟨by rw [ht]; exact hP, va_K.moved hW.alike hK⟩⟩, hS.F ht⟩) hS.2.2 dX12_morning_63
        · skip
          have i_22 : 0 ≤ x_12.toInt ∧ x_12.toInt ≤ 79 := iv_lt1 i_x_12 i_20 (Int32.not_le.mp c_21)
          have i_23 : 1 ≤ (fv 35).toInt ∧ (fv 35).toInt ≤ 80 := iv_lt2 i_x_12 i_20 (Int32.not_le.mp c_21)
          refine lv_aload_n hx hb dX12_morning_41 rfl (lv_at hl 0 rfl) ?_
          refine gM_81 hx hb htg hown hK hP dX12_morning_42 ?_
          refine lv_iload_n hx hb dX12_morning_45 rfl (lv_at hl 1 rfl) ?_
          refine lv_aload_n hx hb dX12_morning_46 rfl (lv_at hl 0 rfl) ?_
          refine gM_80 hx hb htg hown hK hP dX12_morning_47 ?_
          refine lv_iload_n hx hb dX12_morning_50 rfl (lv_at hl 1 rfl) ?_
          refine lM_80 hx hb hK hP (iv_in i_22 (by decide) (by decide)) dX12_morning_51 (fun v_24 ev_24 => ?_)
          refine sM_81 hx hb hK hP hS hd (iv_in i_22 (by decide) (by decide)) dX12_morning_52 (fun H locs ar_25 ear_25 hP hS => ?_)
          have hA_ar_25 : rA ar_25 := rA_put hA_ar_13 ear_25 (iv_any _)
          obtain ⟨v_26, ev_26⟩ : ∃ z : Int32, z = x_12 + 1 := ⟨_, rfl⟩
          refine lv_iinc (v := v_26) (lv' := [(1, .int v_26), (0, .ref h)]) hx hb dX12_morning_53 hl (k := 1) rfl (by rw [ev_26]; rfl) (by decide) rfl (fun ls hl => ?_)
          have t_27 : v_26.toInt = x_12.toInt + 1 ∧ 1 ≤ v_26.toInt ∧ v_26.toInt ≤ 80 := iv_addc ev_26 i_22 (by decide) (by decide) (by decide)
          refine lv_goto (tgt := 33) hx hb dX12_morning_56 (by decide) ?_
          exact ih_17 v_26 ar_25 _ _ ls (by omega) (iv_w t_27.2 (by decide) (by decide)) hA_ar_25 (fA_put (fA_call (fA_rf [81] _) fa_14 (by decide)) ear_25 (by decide)) (sW_fr hp_15 (fA_put (fA_rf [81] _) ear_25 (by decide)) rfl rfl) (vM_fr hp_16 (fM_rf [] _) (fA_put (fA_rf [81] _) ear_25 (by decide)) rfl rfl rfl rfl rfl) hP hS (lv_sub hl [1, 0] rfl)
    · skip
      have z_35 : (0 : Int32).toInt = 0 := by decide
      exact hj_19 81 0 ar_9 _ _ ls (by first | decide | omega) (iv_w (⟨by decide, by decide⟩ : (0 : Int) ≤ (0 : Int32).toInt ∧ (0 : Int32).toInt ≤ 0) (by decide) (by decide)) hA_ar_9 (fA_rf [81] _) p_6 (vM_fr hp_vM (fM_call (fM_put (fM_put (fM_rf [0, 8, 36, 66, 84, 85, 86, 87] _) efv_1 (by decide)) efv_4 (by decide)) fr_10 (by decide)) (fA_call (fA_rf [4, 15, 16, 18, 24, 64, 65, 68, 69, 70, 71, 72, 73, 74, 75, 76, 77, 78, 79, 80, 82, 83] _) fa_11 (by decide)) rfl rfl rfl rfl rfl) hP hS (lv_sub hl [1, 0] rfl)
  · skip
    have i_36 : 0 ≤ (fv 86).toInt ∧ (fv 86).toInt ≤ 199 := iv_eq1 i_2 c_3
    refine lv_iconst (v := (-1)) hx hb dX12_morning_16 (by decide) ?_
    exact W.iret (v := (-1)) hx hb hr (fun t ht hW => ⟨⟨(-1), (fv_1, wd, ar), rfl, ⟨hF_fv_1, hA_ar, (fM_put (fM_rf [0, 8, 36, 66, 84, 85, 86, 87] _) efv_1 (by decide)), (fA_rf [4, 15, 16, 18, 24, 64, 65, 68, 69, 70, 71, 72, 73, 74, 75, 76, 77, 78, 79, 80, 81, 82, 83] _), hp_sW, trivial⟩, ⟨by rw [ht]; exact hP, va_K.moved hW.alike hK⟩⟩, hS.F ht⟩) hS.2.2 dX12_morning_17
set_option maxHeartbeats 4000000 in
set_option maxRecDepth 100000 in
theorem m_keep_15 (l : Launch) (dC : Nat → ClassId) (dI : Nat → Nat → Nat) (sz h : Nat) (ad : Nat → Nat) (cA : Nat → ClassId) (hd : dM h ad) (fv : Nat → Int32) (wd : Int64) (ar : Nat → Nat → Int32) (hF_fv : rF fv) (hA_ar : rA ar) (nn : Int32) (h_nn : 0 ≤ nn.toInt ∧ nn.toInt ≤ 40) (hk : (fv 89).toInt + nn.toInt ≤ 441) : Met l yX12_keep (.code yX12_keep cX12_keep 4 none :: lw_good) ({ frames := 2, cells := 0, slots := 0, locals := 40 }) (va_Pc [.ref h, .ref (ad 15), .int nn] (prM dC dI h ad cA fv wd ar sz)) (va_Qv (fun (u : mS) => rF u.1 ∧ rA u.2.2 ∧ fM [89] fv u.1 ∧ fA [88] ar u.2.2 ∧ ((u.1 89).toInt = (fv 89).toInt + nn.toInt) ∧ True) (enM dC dI h ad cA) (aM h ad sz)) 0 0 (aM h ad sz) := by
  refine Met.ofW (cc := cX12_keep) (maxL := 4) (ret := none) (by decide) rfl ?_
  intro p e s m args below meth c s₁ B hml hv
  obtain ⟨rfl, hsz, hP, hK⟩ := hv
  have hx := B.exec
  have hb := B.bytes
  have hr := B.returns
  have hts := atoms_spec (ws := (.code yX12_keep cX12_keep 4 none :: lw_good)) B.pre
  have htg : ∀ w ∈ lw_good, w.before _ s = true := fun w hw => hts w (List.mem_cons_of_mem _ hw)
  have hown : s.vm.findClass RX12 = some m.cls := findClass_of_methodNamed B.named
  have hlocks := B.notSynchronized
  subst hsz
  have hS : va_S (aM h ad s.heap.size) s.heap s.heap [] := va_S.rf
  have hl := lv_entry ([.ref h, .ref (ad 15), .int nn]) (n := 4) (Nat.le_of_ble_eq_true rfl)
  rw [lg_entry_eq]
  generalize (lg_sl ([.ref h, .ref (ad 15), .int nn]) ++ List.replicate (4 - (lg_sl ([.ref h, .ref (ad 15), .int nn])).length) Slot.unset).toArray = ls at hl ⊢
  have hl : lv_has ls 4 [(0, .ref h), (1, .ref (ad 15)), (2, .int nn)] := hl
  refine lv_iconst (v := 0) hx hb dX12_keep_0 (by decide) ?_
  refine lv_istore_n (lv' := [(3, .int 0), (0, .ref h), (1, .ref (ad 15)), (2, .int nn)]) hx hb dX12_keep_1 rfl hl (by decide) rfl (fun ls hl => ?_)
  refine my_cut (P := fun R9 a9 Q9 => ∀ (n_8 : Nat) (x_1 : Int32) (fv_2 : Nat → Int32) (ar_4 : Nat → Nat → Int32) (H : Heap) (locs : List Loc) (ls : Array Slot), 40 - x_1.toInt < (n_8 : Int) → (0 ≤ x_1.toInt ∧ x_1.toInt ≤ 40) → rF fv_2 → fM [89] fv fv_2 → rA ar_4 → fA [88] ar ar_4 → ((fv_2 89).toInt = (fv 89).toInt + x_1.toInt) → (x_1.toInt ≤ nn.toInt) → va_P (dC, dI) vwCl (wsM h ad cA fv_2 wd ar_4) H → va_S (aM h ad s.heap.size) s.heap H locs → lv_has ls 4 [(0, .ref h), (1, .ref (ad 15)), (2, .int nn), (3, .int x_1)] → W p l e R9 s m a9 below meth c H locs 0 0 Q9 (F0 m 2 ls [])) ?_ (fun hj_10 => ?_)
  · intro n_8
    induction n_8 with
    | zero => intro x_1 fv_2 ar_4 H locs ls fu_9 i_x_1 hF_fv_2 fr_3 hA_ar_4 fa_5 q_6 q_7; exfalso; omega
    | succ n_8 ih_8 =>
      intro x_1 fv_2 ar_4 H locs ls fu_9 i_x_1 hF_fv_2 fr_3 hA_ar_4 fa_5 q_6 q_7 hP hS hl
      refine lv_iload_n hx hb dX12_keep_2 rfl (lv_at hl 3 rfl) ?_
      refine lv_iload_n hx hb dX12_keep_3 rfl (lv_at hl 2 rfl) ?_
      refine lv_icmp_ge (tgt := 35) hx hb dX12_keep_4 (by decide) (fun c_11 => ?_) (fun c_11 => ?_)
      · skip
        have k_12 := Int32.le_iff_toInt_le.mp c_11
        have z_13 : 0 ≤ (fv_2 89).toInt ∧ (fv_2 89).toInt ≤ 441 := hF_fv_2 89
        exact W.vret hx hb hr (fun t ht hW => ⟨⟨(fv_2, wd, ar_4), rfl, ⟨hF_fv_2, hA_ar_4, (fM_call (fM_rf [89] _) fr_3 (by decide)), (fA_call (fA_rf [88] _) fa_5 (by decide)), (show (fv_2 89).toInt = (fv 89).toInt + nn.toInt from by omega), trivial⟩, ⟨by rw [ht]; exact hP, va_K.moved hW.alike hK⟩⟩, hS.F ht⟩) hS.2.2 dX12_keep_35
      · skip
        have i_14 : 0 ≤ x_1.toInt ∧ x_1.toInt ≤ 39 := iv_lt1 i_x_1 h_nn (Int32.not_le.mp c_11)
        have i_15 : 1 ≤ nn.toInt ∧ nn.toInt ≤ 40 := iv_lt2 i_x_1 h_nn (Int32.not_le.mp c_11)
        have k_16 := Int32.lt_iff_toInt_lt.mp (Int32.not_le.mp c_11)
        refine lv_aload_n hx hb dX12_keep_7 rfl (lv_at hl 0 rfl) ?_
        refine gM_88 hx hb htg hown hK hP dX12_keep_8 ?_
        refine lv_aload_n hx hb dX12_keep_11 rfl (lv_at hl 0 rfl) ?_
        refine gM_89 hx hb htg hown hK hP dX12_keep_12 ?_
        have i_17 : 0 ≤ (fv_2 89).toInt ∧ (fv_2 89).toInt ≤ 441 := hF_fv_2 89
        refine lv_aload_n hx hb dX12_keep_15 rfl (lv_at hl 1 rfl) ?_
        refine lv_iload_n hx hb dX12_keep_16 rfl (lv_at hl 3 rfl) ?_
        refine lM_15 hx hb hK hP (iv_in i_14 (by decide) (by decide)) dX12_keep_17 (fun v_18 ev_18 => ?_)
        refine sM_88 hx hb hK hP hS hd (vp_in_iff.mpr (by omega)) dX12_keep_18 (fun H locs ar_19 ear_19 hP hS => ?_)
        have hA_ar_19 : rA ar_19 := rA_put hA_ar_4 ear_19 (iv_any _)
        refine lv_aload_n hx hb dX12_keep_19 rfl (lv_at hl 0 rfl) ?_
        refine lv_dup hx hb dX12_keep_20 rfl ?_
        refine gM_89 hx hb htg hown hK hP dX12_keep_21 ?_
        refine lv_iconst (v := 1) hx hb dX12_keep_24 (by decide) ?_
        refine lv_iadd hx hb dX12_keep_25 ?_
        refine lv_topi (fun v_20 ev_20 => ?_)
        have t_21 : v_20.toInt = (fv_2 89).toInt + 1 ∧ 1 ≤ v_20.toInt ∧ v_20.toInt ≤ 442 := iv_addc ev_20 i_17 (by decide) (by decide) (by decide)
        have i_23 : 0 ≤ v_20.toInt ∧ v_20.toInt ≤ 441 := (by omega)
        refine pM_89 hx hb htg hown hK hP hS hd dX12_keep_26 (fun H locs fv_24 efv_24 hP hS => ?_)
        have hF_fv_24 : rF fv_24 := rF_put hF_fv_2 efv_24 i_23
        obtain ⟨v_25, ev_25⟩ : ∃ z : Int32, z = x_1 + 1 := ⟨_, rfl⟩
        refine lv_iinc (v := v_25) (lv' := [(3, .int v_25), (0, .ref h), (1, .ref (ad 15)), (2, .int nn)]) hx hb dX12_keep_29 hl (k := 3) rfl (by rw [ev_25]; rfl) (by decide) rfl (fun ls hl => ?_)
        have t_26 : v_25.toInt = x_1.toInt + 1 ∧ 1 ≤ v_25.toInt ∧ v_25.toInt ≤ 40 := iv_addc ev_25 i_14 (by decide) (by decide) (by decide)
        refine lv_goto (tgt := 2) hx hb dX12_keep_32 (by decide) ?_
        have z_28 : (fv_24 89).toInt = v_20.toInt := congrArg Int32.toInt ((congrFun efv_24 89))
        have z_29 : 0 ≤ (fv_24 89).toInt ∧ (fv_24 89).toInt ≤ 441 := hF_fv_24 89
        exact ih_8 v_25 fv_24 ar_19 _ _ ls (by omega) (iv_w t_26.2 (by decide) (by decide)) hF_fv_24 (fM_put (fM_call (fM_rf [89] _) fr_3 (by decide)) efv_24 (by decide)) hA_ar_19 (fA_put (fA_call (fA_rf [88] _) fa_5 (by decide)) ear_19 (by decide)) (by omega) (by omega) hP hS (lv_sub hl [1, 2, 3, 0] rfl)
  · skip
    have z_30 : (0 : Int32).toInt = 0 := by decide
    have z_31 : 0 ≤ (fv 89).toInt ∧ (fv 89).toInt ≤ 441 := hF_fv 89
    exact hj_10 41 0 fv ar _ _ ls (by first | decide | omega) (iv_w (⟨by decide, by decide⟩ : (0 : Int) ≤ (0 : Int32).toInt ∧ (0 : Int32).toInt ≤ 0) (by decide) (by decide)) hF_fv (fM_rf [89] _) hA_ar (fA_rf [88] _) (by omega) (by omega) hP hS (lv_sub hl [1, 2, 3, 0] rfl)
set_option maxHeartbeats 4000000 in
set_option maxRecDepth 100000 in
theorem m_putBack_15 (l : Launch) (dC : Nat → ClassId) (dI : Nat → Nat → Nat) (sz h : Nat) (ad : Nat → Nat) (cA : Nat → ClassId) (hd : dM h ad) (fv : Nat → Int32) (wd : Int64) (ar : Nat → Nat → Int32) (hF_fv : rF fv) (hA_ar : rA ar) (nn : Int32) (h_nn : 0 ≤ nn.toInt ∧ nn.toInt ≤ 40) (hk : (fv 89).toInt + nn.toInt ≤ 441) : Met l yX12_putBack (.code yX12_putBack cX12_putBack 4 none :: lw_good) ({ frames := 2, cells := 0, slots := 0, locals := 40 }) (va_Pc [.ref h, .ref (ad 15), .int nn] (prM dC dI h ad cA fv wd ar sz)) (va_Qv (fun (u : mS) => rF u.1 ∧ rA u.2.2 ∧ fM [89] fv u.1 ∧ fA [15] ar u.2.2 ∧ ((u.1 89).toInt = (fv 89).toInt + nn.toInt) ∧ True) (enM dC dI h ad cA) (aM h ad sz)) 0 0 (aM h ad sz) := by
  refine Met.ofW (cc := cX12_putBack) (maxL := 4) (ret := none) (by decide) rfl ?_
  intro p e s m args below meth c s₁ B hml hv
  obtain ⟨rfl, hsz, hP, hK⟩ := hv
  have hx := B.exec
  have hb := B.bytes
  have hr := B.returns
  have hts := atoms_spec (ws := (.code yX12_putBack cX12_putBack 4 none :: lw_good)) B.pre
  have htg : ∀ w ∈ lw_good, w.before _ s = true := fun w hw => hts w (List.mem_cons_of_mem _ hw)
  have hown : s.vm.findClass RX12 = some m.cls := findClass_of_methodNamed B.named
  have hlocks := B.notSynchronized
  subst hsz
  have hS : va_S (aM h ad s.heap.size) s.heap s.heap [] := va_S.rf
  have hl := lv_entry ([.ref h, .ref (ad 15), .int nn]) (n := 4) (Nat.le_of_ble_eq_true rfl)
  rw [lg_entry_eq]
  generalize (lg_sl ([.ref h, .ref (ad 15), .int nn]) ++ List.replicate (4 - (lg_sl ([.ref h, .ref (ad 15), .int nn])).length) Slot.unset).toArray = ls at hl ⊢
  have hl : lv_has ls 4 [(0, .ref h), (1, .ref (ad 15)), (2, .int nn)] := hl
  refine lv_iconst (v := 0) hx hb dX12_putBack_0 (by decide) ?_
  refine lv_istore_n (lv' := [(3, .int 0), (0, .ref h), (1, .ref (ad 15)), (2, .int nn)]) hx hb dX12_putBack_1 rfl hl (by decide) rfl (fun ls hl => ?_)
  refine my_cut (P := fun R9 a9 Q9 => ∀ (n_8 : Nat) (x_1 : Int32) (fv_2 : Nat → Int32) (ar_4 : Nat → Nat → Int32) (H : Heap) (locs : List Loc) (ls : Array Slot), 40 - x_1.toInt < (n_8 : Int) → (0 ≤ x_1.toInt ∧ x_1.toInt ≤ 40) → rF fv_2 → fM [89] fv fv_2 → rA ar_4 → fA [15] ar ar_4 → ((fv_2 89).toInt = (fv 89).toInt + x_1.toInt) → (x_1.toInt ≤ nn.toInt) → va_P (dC, dI) vwCl (wsM h ad cA fv_2 wd ar_4) H → va_S (aM h ad s.heap.size) s.heap H locs → lv_has ls 4 [(0, .ref h), (1, .ref (ad 15)), (2, .int nn), (3, .int x_1)] → W p l e R9 s m a9 below meth c H locs 0 0 Q9 (F0 m 2 ls [])) ?_ (fun hj_10 => ?_)
  · intro n_8
    induction n_8 with
    | zero => intro x_1 fv_2 ar_4 H locs ls fu_9 i_x_1 hF_fv_2 fr_3 hA_ar_4 fa_5 q_6 q_7; exfalso; omega
    | succ n_8 ih_8 =>
      intro x_1 fv_2 ar_4 H locs ls fu_9 i_x_1 hF_fv_2 fr_3 hA_ar_4 fa_5 q_6 q_7 hP hS hl
      refine lv_iload_n hx hb dX12_putBack_2 rfl (lv_at hl 3 rfl) ?_
      refine lv_iload_n hx hb dX12_putBack_3 rfl (lv_at hl 2 rfl) ?_
      refine lv_icmp_ge (tgt := 35) hx hb dX12_putBack_4 (by decide) (fun c_11 => ?_) (fun c_11 => ?_)
      · skip
        have k_12 := Int32.le_iff_toInt_le.mp c_11
        have z_13 : 0 ≤ (fv_2 89).toInt ∧ (fv_2 89).toInt ≤ 441 := hF_fv_2 89
        exact W.vret hx hb hr (fun t ht hW => ⟨⟨(fv_2, wd, ar_4), rfl, ⟨hF_fv_2, hA_ar_4, (fM_call (fM_rf [89] _) fr_3 (by decide)), (fA_call (fA_rf [15] _) fa_5 (by decide)), (show (fv_2 89).toInt = (fv 89).toInt + nn.toInt from by omega), trivial⟩, ⟨by rw [ht]; exact hP, va_K.moved hW.alike hK⟩⟩, hS.F ht⟩) hS.2.2 dX12_putBack_35
      · skip
        have i_14 : 0 ≤ x_1.toInt ∧ x_1.toInt ≤ 39 := iv_lt1 i_x_1 h_nn (Int32.not_le.mp c_11)
        have i_15 : 1 ≤ nn.toInt ∧ nn.toInt ≤ 40 := iv_lt2 i_x_1 h_nn (Int32.not_le.mp c_11)
        have k_16 := Int32.lt_iff_toInt_lt.mp (Int32.not_le.mp c_11)
        refine lv_aload_n hx hb dX12_putBack_7 rfl (lv_at hl 1 rfl) ?_
        refine lv_iload_n hx hb dX12_putBack_8 rfl (lv_at hl 3 rfl) ?_
        refine lv_aload_n hx hb dX12_putBack_9 rfl (lv_at hl 0 rfl) ?_
        refine gM_88 hx hb htg hown hK hP dX12_putBack_10 ?_
        refine lv_aload_n hx hb dX12_putBack_13 rfl (lv_at hl 0 rfl) ?_
        refine gM_89 hx hb htg hown hK hP dX12_putBack_14 ?_
        have i_17 : 0 ≤ (fv_2 89).toInt ∧ (fv_2 89).toInt ≤ 441 := hF_fv_2 89
        refine lM_88 hx hb hK hP (vp_in_iff.mpr (by omega)) dX12_putBack_17 (fun v_18 ev_18 => ?_)
        refine sM_15 hx hb hK hP hS hd (iv_in i_14 (by decide) (by decide)) dX12_putBack_18 (fun H locs ar_19 ear_19 hP hS => ?_)
        have hA_ar_19 : rA ar_19 := rA_put hA_ar_4 ear_19 (iv_any _)
        refine lv_aload_n hx hb dX12_putBack_19 rfl (lv_at hl 0 rfl) ?_
        refine lv_dup hx hb dX12_putBack_20 rfl ?_
        refine gM_89 hx hb htg hown hK hP dX12_putBack_21 ?_
        refine lv_iconst (v := 1) hx hb dX12_putBack_24 (by decide) ?_
        refine lv_iadd hx hb dX12_putBack_25 ?_
        refine lv_topi (fun v_20 ev_20 => ?_)
        have t_21 : v_20.toInt = (fv_2 89).toInt + 1 ∧ 1 ≤ v_20.toInt ∧ v_20.toInt ≤ 442 := iv_addc ev_20 i_17 (by decide) (by decide) (by decide)
        have i_23 : 0 ≤ v_20.toInt ∧ v_20.toInt ≤ 441 := (by omega)
        refine pM_89 hx hb htg hown hK hP hS hd dX12_putBack_26 (fun H locs fv_24 efv_24 hP hS => ?_)
        have hF_fv_24 : rF fv_24 := rF_put hF_fv_2 efv_24 i_23
        obtain ⟨v_25, ev_25⟩ : ∃ z : Int32, z = x_1 + 1 := ⟨_, rfl⟩
        refine lv_iinc (v := v_25) (lv' := [(3, .int v_25), (0, .ref h), (1, .ref (ad 15)), (2, .int nn)]) hx hb dX12_putBack_29 hl (k := 3) rfl (by rw [ev_25]; rfl) (by decide) rfl (fun ls hl => ?_)
        have t_26 : v_25.toInt = x_1.toInt + 1 ∧ 1 ≤ v_25.toInt ∧ v_25.toInt ≤ 40 := iv_addc ev_25 i_14 (by decide) (by decide) (by decide)
        refine lv_goto (tgt := 2) hx hb dX12_putBack_32 (by decide) ?_
        have z_28 : (fv_24 89).toInt = v_20.toInt := congrArg Int32.toInt ((congrFun efv_24 89))
        have z_29 : 0 ≤ (fv_24 89).toInt ∧ (fv_24 89).toInt ≤ 441 := hF_fv_24 89
        exact ih_8 v_25 fv_24 ar_19 _ _ ls (by omega) (iv_w t_26.2 (by decide) (by decide)) hF_fv_24 (fM_put (fM_call (fM_rf [89] _) fr_3 (by decide)) efv_24 (by decide)) hA_ar_19 (fA_put (fA_call (fA_rf [15] _) fa_5 (by decide)) ear_19 (by decide)) (by omega) (by omega) hP hS (lv_sub hl [1, 2, 3, 0] rfl)
  · skip
    have z_30 : (0 : Int32).toInt = 0 := by decide
    have z_31 : 0 ≤ (fv 89).toInt ∧ (fv 89).toInt ≤ 441 := hF_fv 89
    exact hj_10 41 0 fv ar _ _ ls (by first | decide | omega) (iv_w (⟨by decide, by decide⟩ : (0 : Int) ≤ (0 : Int32).toInt ∧ (0 : Int32).toInt ≤ 0) (by decide) (by decide)) hF_fv (fM_rf [89] _) hA_ar (fA_rf [15] _) (by omega) (by omega) hP hS (lv_sub hl [1, 2, 3, 0] rfl)
set_option maxHeartbeats 4000000 in
set_option maxRecDepth 100000 in
theorem m_keep_16 (l : Launch) (dC : Nat → ClassId) (dI : Nat → Nat → Nat) (sz h : Nat) (ad : Nat → Nat) (cA : Nat → ClassId) (hd : dM h ad) (fv : Nat → Int32) (wd : Int64) (ar : Nat → Nat → Int32) (hF_fv : rF fv) (hA_ar : rA ar) (nn : Int32) (h_nn : 0 ≤ nn.toInt ∧ nn.toInt ≤ 40) (hk : (fv 89).toInt + nn.toInt ≤ 441) : Met l yX12_keep (.code yX12_keep cX12_keep 4 none :: lw_good) ({ frames := 2, cells := 0, slots := 0, locals := 40 }) (va_Pc [.ref h, .ref (ad 16), .int nn] (prM dC dI h ad cA fv wd ar sz)) (va_Qv (fun (u : mS) => rF u.1 ∧ rA u.2.2 ∧ fM [89] fv u.1 ∧ fA [88] ar u.2.2 ∧ ((u.1 89).toInt = (fv 89).toInt + nn.toInt) ∧ True) (enM dC dI h ad cA) (aM h ad sz)) 0 0 (aM h ad sz) := by
  refine Met.ofW (cc := cX12_keep) (maxL := 4) (ret := none) (by decide) rfl ?_
  intro p e s m args below meth c s₁ B hml hv
  obtain ⟨rfl, hsz, hP, hK⟩ := hv
  have hx := B.exec
  have hb := B.bytes
  have hr := B.returns
  have hts := atoms_spec (ws := (.code yX12_keep cX12_keep 4 none :: lw_good)) B.pre
  have htg : ∀ w ∈ lw_good, w.before _ s = true := fun w hw => hts w (List.mem_cons_of_mem _ hw)
  have hown : s.vm.findClass RX12 = some m.cls := findClass_of_methodNamed B.named
  have hlocks := B.notSynchronized
  subst hsz
  have hS : va_S (aM h ad s.heap.size) s.heap s.heap [] := va_S.rf
  have hl := lv_entry ([.ref h, .ref (ad 16), .int nn]) (n := 4) (Nat.le_of_ble_eq_true rfl)
  rw [lg_entry_eq]
  generalize (lg_sl ([.ref h, .ref (ad 16), .int nn]) ++ List.replicate (4 - (lg_sl ([.ref h, .ref (ad 16), .int nn])).length) Slot.unset).toArray = ls at hl ⊢
  have hl : lv_has ls 4 [(0, .ref h), (1, .ref (ad 16)), (2, .int nn)] := hl
  refine lv_iconst (v := 0) hx hb dX12_keep_0 (by decide) ?_
  refine lv_istore_n (lv' := [(3, .int 0), (0, .ref h), (1, .ref (ad 16)), (2, .int nn)]) hx hb dX12_keep_1 rfl hl (by decide) rfl (fun ls hl => ?_)
  refine my_cut (P := fun R9 a9 Q9 => ∀ (n_8 : Nat) (x_1 : Int32) (fv_2 : Nat → Int32) (ar_4 : Nat → Nat → Int32) (H : Heap) (locs : List Loc) (ls : Array Slot), 40 - x_1.toInt < (n_8 : Int) → (0 ≤ x_1.toInt ∧ x_1.toInt ≤ 40) → rF fv_2 → fM [89] fv fv_2 → rA ar_4 → fA [88] ar ar_4 → ((fv_2 89).toInt = (fv 89).toInt + x_1.toInt) → (x_1.toInt ≤ nn.toInt) → va_P (dC, dI) vwCl (wsM h ad cA fv_2 wd ar_4) H → va_S (aM h ad s.heap.size) s.heap H locs → lv_has ls 4 [(0, .ref h), (1, .ref (ad 16)), (2, .int nn), (3, .int x_1)] → W p l e R9 s m a9 below meth c H locs 0 0 Q9 (F0 m 2 ls [])) ?_ (fun hj_10 => ?_)
  · intro n_8
    induction n_8 with
    | zero => intro x_1 fv_2 ar_4 H locs ls fu_9 i_x_1 hF_fv_2 fr_3 hA_ar_4 fa_5 q_6 q_7; exfalso; omega
    | succ n_8 ih_8 =>
      intro x_1 fv_2 ar_4 H locs ls fu_9 i_x_1 hF_fv_2 fr_3 hA_ar_4 fa_5 q_6 q_7 hP hS hl
      refine lv_iload_n hx hb dX12_keep_2 rfl (lv_at hl 3 rfl) ?_
      refine lv_iload_n hx hb dX12_keep_3 rfl (lv_at hl 2 rfl) ?_
      refine lv_icmp_ge (tgt := 35) hx hb dX12_keep_4 (by decide) (fun c_11 => ?_) (fun c_11 => ?_)
      · skip
        have k_12 := Int32.le_iff_toInt_le.mp c_11
        have z_13 : 0 ≤ (fv_2 89).toInt ∧ (fv_2 89).toInt ≤ 441 := hF_fv_2 89
        exact W.vret hx hb hr (fun t ht hW => ⟨⟨(fv_2, wd, ar_4), rfl, ⟨hF_fv_2, hA_ar_4, (fM_call (fM_rf [89] _) fr_3 (by decide)), (fA_call (fA_rf [88] _) fa_5 (by decide)), (show (fv_2 89).toInt = (fv 89).toInt + nn.toInt from by omega), trivial⟩, ⟨by rw [ht]; exact hP, va_K.moved hW.alike hK⟩⟩, hS.F ht⟩) hS.2.2 dX12_keep_35
      · skip
        have i_14 : 0 ≤ x_1.toInt ∧ x_1.toInt ≤ 39 := iv_lt1 i_x_1 h_nn (Int32.not_le.mp c_11)
        have i_15 : 1 ≤ nn.toInt ∧ nn.toInt ≤ 40 := iv_lt2 i_x_1 h_nn (Int32.not_le.mp c_11)
        have k_16 := Int32.lt_iff_toInt_lt.mp (Int32.not_le.mp c_11)
        refine lv_aload_n hx hb dX12_keep_7 rfl (lv_at hl 0 rfl) ?_
        refine gM_88 hx hb htg hown hK hP dX12_keep_8 ?_
        refine lv_aload_n hx hb dX12_keep_11 rfl (lv_at hl 0 rfl) ?_
        refine gM_89 hx hb htg hown hK hP dX12_keep_12 ?_
        have i_17 : 0 ≤ (fv_2 89).toInt ∧ (fv_2 89).toInt ≤ 441 := hF_fv_2 89
        refine lv_aload_n hx hb dX12_keep_15 rfl (lv_at hl 1 rfl) ?_
        refine lv_iload_n hx hb dX12_keep_16 rfl (lv_at hl 3 rfl) ?_
        refine lM_16 hx hb hK hP (iv_in i_14 (by decide) (by decide)) dX12_keep_17 (fun v_18 ev_18 => ?_)
        refine sM_88 hx hb hK hP hS hd (vp_in_iff.mpr (by omega)) dX12_keep_18 (fun H locs ar_19 ear_19 hP hS => ?_)
        have hA_ar_19 : rA ar_19 := rA_put hA_ar_4 ear_19 (iv_any _)
        refine lv_aload_n hx hb dX12_keep_19 rfl (lv_at hl 0 rfl) ?_
        refine lv_dup hx hb dX12_keep_20 rfl ?_
        refine gM_89 hx hb htg hown hK hP dX12_keep_21 ?_
        refine lv_iconst (v := 1) hx hb dX12_keep_24 (by decide) ?_
        refine lv_iadd hx hb dX12_keep_25 ?_
        refine lv_topi (fun v_20 ev_20 => ?_)
        have t_21 : v_20.toInt = (fv_2 89).toInt + 1 ∧ 1 ≤ v_20.toInt ∧ v_20.toInt ≤ 442 := iv_addc ev_20 i_17 (by decide) (by decide) (by decide)
        have i_23 : 0 ≤ v_20.toInt ∧ v_20.toInt ≤ 441 := (by omega)
        refine pM_89 hx hb htg hown hK hP hS hd dX12_keep_26 (fun H locs fv_24 efv_24 hP hS => ?_)
        have hF_fv_24 : rF fv_24 := rF_put hF_fv_2 efv_24 i_23
        obtain ⟨v_25, ev_25⟩ : ∃ z : Int32, z = x_1 + 1 := ⟨_, rfl⟩
        refine lv_iinc (v := v_25) (lv' := [(3, .int v_25), (0, .ref h), (1, .ref (ad 16)), (2, .int nn)]) hx hb dX12_keep_29 hl (k := 3) rfl (by rw [ev_25]; rfl) (by decide) rfl (fun ls hl => ?_)
        have t_26 : v_25.toInt = x_1.toInt + 1 ∧ 1 ≤ v_25.toInt ∧ v_25.toInt ≤ 40 := iv_addc ev_25 i_14 (by decide) (by decide) (by decide)
        refine lv_goto (tgt := 2) hx hb dX12_keep_32 (by decide) ?_
        have z_28 : (fv_24 89).toInt = v_20.toInt := congrArg Int32.toInt ((congrFun efv_24 89))
        have z_29 : 0 ≤ (fv_24 89).toInt ∧ (fv_24 89).toInt ≤ 441 := hF_fv_24 89
        exact ih_8 v_25 fv_24 ar_19 _ _ ls (by omega) (iv_w t_26.2 (by decide) (by decide)) hF_fv_24 (fM_put (fM_call (fM_rf [89] _) fr_3 (by decide)) efv_24 (by decide)) hA_ar_19 (fA_put (fA_call (fA_rf [88] _) fa_5 (by decide)) ear_19 (by decide)) (by omega) (by omega) hP hS (lv_sub hl [1, 2, 3, 0] rfl)
  · skip
    have z_30 : (0 : Int32).toInt = 0 := by decide
    have z_31 : 0 ≤ (fv 89).toInt ∧ (fv 89).toInt ≤ 441 := hF_fv 89
    exact hj_10 41 0 fv ar _ _ ls (by first | decide | omega) (iv_w (⟨by decide, by decide⟩ : (0 : Int) ≤ (0 : Int32).toInt ∧ (0 : Int32).toInt ≤ 0) (by decide) (by decide)) hF_fv (fM_rf [89] _) hA_ar (fA_rf [88] _) (by omega) (by omega) hP hS (lv_sub hl [1, 2, 3, 0] rfl)
set_option maxHeartbeats 4000000 in
set_option maxRecDepth 100000 in
theorem m_putBack_16 (l : Launch) (dC : Nat → ClassId) (dI : Nat → Nat → Nat) (sz h : Nat) (ad : Nat → Nat) (cA : Nat → ClassId) (hd : dM h ad) (fv : Nat → Int32) (wd : Int64) (ar : Nat → Nat → Int32) (hF_fv : rF fv) (hA_ar : rA ar) (nn : Int32) (h_nn : 0 ≤ nn.toInt ∧ nn.toInt ≤ 40) (hk : (fv 89).toInt + nn.toInt ≤ 441) : Met l yX12_putBack (.code yX12_putBack cX12_putBack 4 none :: lw_good) ({ frames := 2, cells := 0, slots := 0, locals := 40 }) (va_Pc [.ref h, .ref (ad 16), .int nn] (prM dC dI h ad cA fv wd ar sz)) (va_Qv (fun (u : mS) => rF u.1 ∧ rA u.2.2 ∧ fM [89] fv u.1 ∧ fA [16] ar u.2.2 ∧ ((u.1 89).toInt = (fv 89).toInt + nn.toInt) ∧ True) (enM dC dI h ad cA) (aM h ad sz)) 0 0 (aM h ad sz) := by
  refine Met.ofW (cc := cX12_putBack) (maxL := 4) (ret := none) (by decide) rfl ?_
  intro p e s m args below meth c s₁ B hml hv
  obtain ⟨rfl, hsz, hP, hK⟩ := hv
  have hx := B.exec
  have hb := B.bytes
  have hr := B.returns
  have hts := atoms_spec (ws := (.code yX12_putBack cX12_putBack 4 none :: lw_good)) B.pre
  have htg : ∀ w ∈ lw_good, w.before _ s = true := fun w hw => hts w (List.mem_cons_of_mem _ hw)
  have hown : s.vm.findClass RX12 = some m.cls := findClass_of_methodNamed B.named
  have hlocks := B.notSynchronized
  subst hsz
  have hS : va_S (aM h ad s.heap.size) s.heap s.heap [] := va_S.rf
  have hl := lv_entry ([.ref h, .ref (ad 16), .int nn]) (n := 4) (Nat.le_of_ble_eq_true rfl)
  rw [lg_entry_eq]
  generalize (lg_sl ([.ref h, .ref (ad 16), .int nn]) ++ List.replicate (4 - (lg_sl ([.ref h, .ref (ad 16), .int nn])).length) Slot.unset).toArray = ls at hl ⊢
  have hl : lv_has ls 4 [(0, .ref h), (1, .ref (ad 16)), (2, .int nn)] := hl
  refine lv_iconst (v := 0) hx hb dX12_putBack_0 (by decide) ?_
  refine lv_istore_n (lv' := [(3, .int 0), (0, .ref h), (1, .ref (ad 16)), (2, .int nn)]) hx hb dX12_putBack_1 rfl hl (by decide) rfl (fun ls hl => ?_)
  refine my_cut (P := fun R9 a9 Q9 => ∀ (n_8 : Nat) (x_1 : Int32) (fv_2 : Nat → Int32) (ar_4 : Nat → Nat → Int32) (H : Heap) (locs : List Loc) (ls : Array Slot), 40 - x_1.toInt < (n_8 : Int) → (0 ≤ x_1.toInt ∧ x_1.toInt ≤ 40) → rF fv_2 → fM [89] fv fv_2 → rA ar_4 → fA [16] ar ar_4 → ((fv_2 89).toInt = (fv 89).toInt + x_1.toInt) → (x_1.toInt ≤ nn.toInt) → va_P (dC, dI) vwCl (wsM h ad cA fv_2 wd ar_4) H → va_S (aM h ad s.heap.size) s.heap H locs → lv_has ls 4 [(0, .ref h), (1, .ref (ad 16)), (2, .int nn), (3, .int x_1)] → W p l e R9 s m a9 below meth c H locs 0 0 Q9 (F0 m 2 ls [])) ?_ (fun hj_10 => ?_)
  · intro n_8
    induction n_8 with
    | zero => intro x_1 fv_2 ar_4 H locs ls fu_9 i_x_1 hF_fv_2 fr_3 hA_ar_4 fa_5 q_6 q_7; exfalso; omega
    | succ n_8 ih_8 =>
      intro x_1 fv_2 ar_4 H locs ls fu_9 i_x_1 hF_fv_2 fr_3 hA_ar_4 fa_5 q_6 q_7 hP hS hl
      refine lv_iload_n hx hb dX12_putBack_2 rfl (lv_at hl 3 rfl) ?_
      refine lv_iload_n hx hb dX12_putBack_3 rfl (lv_at hl 2 rfl) ?_
      refine lv_icmp_ge (tgt := 35) hx hb dX12_putBack_4 (by decide) (fun c_11 => ?_) (fun c_11 => ?_)
      · skip
        have k_12 := Int32.le_iff_toInt_le.mp c_11
        have z_13 : 0 ≤ (fv_2 89).toInt ∧ (fv_2 89).toInt ≤ 441 := hF_fv_2 89
        exact W.vret hx hb hr (fun t ht hW => ⟨⟨(fv_2, wd, ar_4), rfl, ⟨hF_fv_2, hA_ar_4, (fM_call (fM_rf [89] _) fr_3 (by decide)), (fA_call (fA_rf [16] _) fa_5 (by decide)), (show (fv_2 89).toInt = (fv 89).toInt + nn.toInt from by omega), trivial⟩, ⟨by rw [ht]; exact hP, va_K.moved hW.alike hK⟩⟩, hS.F ht⟩) hS.2.2 dX12_putBack_35
      · skip
        have i_14 : 0 ≤ x_1.toInt ∧ x_1.toInt ≤ 39 := iv_lt1 i_x_1 h_nn (Int32.not_le.mp c_11)
        have i_15 : 1 ≤ nn.toInt ∧ nn.toInt ≤ 40 := iv_lt2 i_x_1 h_nn (Int32.not_le.mp c_11)
        have k_16 := Int32.lt_iff_toInt_lt.mp (Int32.not_le.mp c_11)
        refine lv_aload_n hx hb dX12_putBack_7 rfl (lv_at hl 1 rfl) ?_
        refine lv_iload_n hx hb dX12_putBack_8 rfl (lv_at hl 3 rfl) ?_
        refine lv_aload_n hx hb dX12_putBack_9 rfl (lv_at hl 0 rfl) ?_
        refine gM_88 hx hb htg hown hK hP dX12_putBack_10 ?_
        refine lv_aload_n hx hb dX12_putBack_13 rfl (lv_at hl 0 rfl) ?_
        refine gM_89 hx hb htg hown hK hP dX12_putBack_14 ?_
        have i_17 : 0 ≤ (fv_2 89).toInt ∧ (fv_2 89).toInt ≤ 441 := hF_fv_2 89
        refine lM_88 hx hb hK hP (vp_in_iff.mpr (by omega)) dX12_putBack_17 (fun v_18 ev_18 => ?_)
        refine sM_16 hx hb hK hP hS hd (iv_in i_14 (by decide) (by decide)) dX12_putBack_18 (fun H locs ar_19 ear_19 hP hS => ?_)
        have hA_ar_19 : rA ar_19 := rA_put hA_ar_4 ear_19 (iv_any _)
        refine lv_aload_n hx hb dX12_putBack_19 rfl (lv_at hl 0 rfl) ?_
        refine lv_dup hx hb dX12_putBack_20 rfl ?_
        refine gM_89 hx hb htg hown hK hP dX12_putBack_21 ?_
        refine lv_iconst (v := 1) hx hb dX12_putBack_24 (by decide) ?_
        refine lv_iadd hx hb dX12_putBack_25 ?_
        refine lv_topi (fun v_20 ev_20 => ?_)
        have t_21 : v_20.toInt = (fv_2 89).toInt + 1 ∧ 1 ≤ v_20.toInt ∧ v_20.toInt ≤ 442 := iv_addc ev_20 i_17 (by decide) (by decide) (by decide)
        have i_23 : 0 ≤ v_20.toInt ∧ v_20.toInt ≤ 441 := (by omega)
        refine pM_89 hx hb htg hown hK hP hS hd dX12_putBack_26 (fun H locs fv_24 efv_24 hP hS => ?_)
        have hF_fv_24 : rF fv_24 := rF_put hF_fv_2 efv_24 i_23
        obtain ⟨v_25, ev_25⟩ : ∃ z : Int32, z = x_1 + 1 := ⟨_, rfl⟩
        refine lv_iinc (v := v_25) (lv' := [(3, .int v_25), (0, .ref h), (1, .ref (ad 16)), (2, .int nn)]) hx hb dX12_putBack_29 hl (k := 3) rfl (by rw [ev_25]; rfl) (by decide) rfl (fun ls hl => ?_)
        have t_26 : v_25.toInt = x_1.toInt + 1 ∧ 1 ≤ v_25.toInt ∧ v_25.toInt ≤ 40 := iv_addc ev_25 i_14 (by decide) (by decide) (by decide)
        refine lv_goto (tgt := 2) hx hb dX12_putBack_32 (by decide) ?_
        have z_28 : (fv_24 89).toInt = v_20.toInt := congrArg Int32.toInt ((congrFun efv_24 89))
        have z_29 : 0 ≤ (fv_24 89).toInt ∧ (fv_24 89).toInt ≤ 441 := hF_fv_24 89
        exact ih_8 v_25 fv_24 ar_19 _ _ ls (by omega) (iv_w t_26.2 (by decide) (by decide)) hF_fv_24 (fM_put (fM_call (fM_rf [89] _) fr_3 (by decide)) efv_24 (by decide)) hA_ar_19 (fA_put (fA_call (fA_rf [16] _) fa_5 (by decide)) ear_19 (by decide)) (by omega) (by omega) hP hS (lv_sub hl [1, 2, 3, 0] rfl)
  · skip
    have z_30 : (0 : Int32).toInt = 0 := by decide
    have z_31 : 0 ≤ (fv 89).toInt ∧ (fv 89).toInt ≤ 441 := hF_fv 89
    exact hj_10 41 0 fv ar _ _ ls (by first | decide | omega) (iv_w (⟨by decide, by decide⟩ : (0 : Int) ≤ (0 : Int32).toInt ∧ (0 : Int32).toInt ≤ 0) (by decide) (by decide)) hF_fv (fM_rf [89] _) hA_ar (fA_rf [16] _) (by omega) (by omega) hP hS (lv_sub hl [1, 2, 3, 0] rfl)
set_option maxHeartbeats 4000000 in
set_option maxRecDepth 100000 in
theorem m_keep_18 (l : Launch) (dC : Nat → ClassId) (dI : Nat → Nat → Nat) (sz h : Nat) (ad : Nat → Nat) (cA : Nat → ClassId) (hd : dM h ad) (fv : Nat → Int32) (wd : Int64) (ar : Nat → Nat → Int32) (hF_fv : rF fv) (hA_ar : rA ar) (nn : Int32) (h_nn : 0 ≤ nn.toInt ∧ nn.toInt ≤ 40) (hk : (fv 89).toInt + nn.toInt ≤ 441) : Met l yX12_keep (.code yX12_keep cX12_keep 4 none :: lw_good) ({ frames := 2, cells := 0, slots := 0, locals := 40 }) (va_Pc [.ref h, .ref (ad 18), .int nn] (prM dC dI h ad cA fv wd ar sz)) (va_Qv (fun (u : mS) => rF u.1 ∧ rA u.2.2 ∧ fM [89] fv u.1 ∧ fA [88] ar u.2.2 ∧ ((u.1 89).toInt = (fv 89).toInt + nn.toInt) ∧ True) (enM dC dI h ad cA) (aM h ad sz)) 0 0 (aM h ad sz) := by
  refine Met.ofW (cc := cX12_keep) (maxL := 4) (ret := none) (by decide) rfl ?_
  intro p e s m args below meth c s₁ B hml hv
  obtain ⟨rfl, hsz, hP, hK⟩ := hv
  have hx := B.exec
  have hb := B.bytes
  have hr := B.returns
  have hts := atoms_spec (ws := (.code yX12_keep cX12_keep 4 none :: lw_good)) B.pre
  have htg : ∀ w ∈ lw_good, w.before _ s = true := fun w hw => hts w (List.mem_cons_of_mem _ hw)
  have hown : s.vm.findClass RX12 = some m.cls := findClass_of_methodNamed B.named
  have hlocks := B.notSynchronized
  subst hsz
  have hS : va_S (aM h ad s.heap.size) s.heap s.heap [] := va_S.rf
  have hl := lv_entry ([.ref h, .ref (ad 18), .int nn]) (n := 4) (Nat.le_of_ble_eq_true rfl)
  rw [lg_entry_eq]
  generalize (lg_sl ([.ref h, .ref (ad 18), .int nn]) ++ List.replicate (4 - (lg_sl ([.ref h, .ref (ad 18), .int nn])).length) Slot.unset).toArray = ls at hl ⊢
  have hl : lv_has ls 4 [(0, .ref h), (1, .ref (ad 18)), (2, .int nn)] := hl
  refine lv_iconst (v := 0) hx hb dX12_keep_0 (by decide) ?_
  refine lv_istore_n (lv' := [(3, .int 0), (0, .ref h), (1, .ref (ad 18)), (2, .int nn)]) hx hb dX12_keep_1 rfl hl (by decide) rfl (fun ls hl => ?_)
  refine my_cut (P := fun R9 a9 Q9 => ∀ (n_8 : Nat) (x_1 : Int32) (fv_2 : Nat → Int32) (ar_4 : Nat → Nat → Int32) (H : Heap) (locs : List Loc) (ls : Array Slot), 40 - x_1.toInt < (n_8 : Int) → (0 ≤ x_1.toInt ∧ x_1.toInt ≤ 40) → rF fv_2 → fM [89] fv fv_2 → rA ar_4 → fA [88] ar ar_4 → ((fv_2 89).toInt = (fv 89).toInt + x_1.toInt) → (x_1.toInt ≤ nn.toInt) → va_P (dC, dI) vwCl (wsM h ad cA fv_2 wd ar_4) H → va_S (aM h ad s.heap.size) s.heap H locs → lv_has ls 4 [(0, .ref h), (1, .ref (ad 18)), (2, .int nn), (3, .int x_1)] → W p l e R9 s m a9 below meth c H locs 0 0 Q9 (F0 m 2 ls [])) ?_ (fun hj_10 => ?_)
  · intro n_8
    induction n_8 with
    | zero => intro x_1 fv_2 ar_4 H locs ls fu_9 i_x_1 hF_fv_2 fr_3 hA_ar_4 fa_5 q_6 q_7; exfalso; omega
    | succ n_8 ih_8 =>
      intro x_1 fv_2 ar_4 H locs ls fu_9 i_x_1 hF_fv_2 fr_3 hA_ar_4 fa_5 q_6 q_7 hP hS hl
      refine lv_iload_n hx hb dX12_keep_2 rfl (lv_at hl 3 rfl) ?_
      refine lv_iload_n hx hb dX12_keep_3 rfl (lv_at hl 2 rfl) ?_
      refine lv_icmp_ge (tgt := 35) hx hb dX12_keep_4 (by decide) (fun c_11 => ?_) (fun c_11 => ?_)
      · skip
        have k_12 := Int32.le_iff_toInt_le.mp c_11
        have z_13 : 0 ≤ (fv_2 89).toInt ∧ (fv_2 89).toInt ≤ 441 := hF_fv_2 89
        exact W.vret hx hb hr (fun t ht hW => ⟨⟨(fv_2, wd, ar_4), rfl, ⟨hF_fv_2, hA_ar_4, (fM_call (fM_rf [89] _) fr_3 (by decide)), (fA_call (fA_rf [88] _) fa_5 (by decide)), (show (fv_2 89).toInt = (fv 89).toInt + nn.toInt from by omega), trivial⟩, ⟨by rw [ht]; exact hP, va_K.moved hW.alike hK⟩⟩, hS.F ht⟩) hS.2.2 dX12_keep_35
      · skip
        have i_14 : 0 ≤ x_1.toInt ∧ x_1.toInt ≤ 39 := iv_lt1 i_x_1 h_nn (Int32.not_le.mp c_11)
        have i_15 : 1 ≤ nn.toInt ∧ nn.toInt ≤ 40 := iv_lt2 i_x_1 h_nn (Int32.not_le.mp c_11)
        have k_16 := Int32.lt_iff_toInt_lt.mp (Int32.not_le.mp c_11)
        refine lv_aload_n hx hb dX12_keep_7 rfl (lv_at hl 0 rfl) ?_
        refine gM_88 hx hb htg hown hK hP dX12_keep_8 ?_
        refine lv_aload_n hx hb dX12_keep_11 rfl (lv_at hl 0 rfl) ?_
        refine gM_89 hx hb htg hown hK hP dX12_keep_12 ?_
        have i_17 : 0 ≤ (fv_2 89).toInt ∧ (fv_2 89).toInt ≤ 441 := hF_fv_2 89
        refine lv_aload_n hx hb dX12_keep_15 rfl (lv_at hl 1 rfl) ?_
        refine lv_iload_n hx hb dX12_keep_16 rfl (lv_at hl 3 rfl) ?_
        refine lM_18 hx hb hK hP (iv_in i_14 (by decide) (by decide)) dX12_keep_17 (fun v_18 ev_18 => ?_)
        refine sM_88 hx hb hK hP hS hd (vp_in_iff.mpr (by omega)) dX12_keep_18 (fun H locs ar_19 ear_19 hP hS => ?_)
        have hA_ar_19 : rA ar_19 := rA_put hA_ar_4 ear_19 (iv_any _)
        refine lv_aload_n hx hb dX12_keep_19 rfl (lv_at hl 0 rfl) ?_
        refine lv_dup hx hb dX12_keep_20 rfl ?_
        refine gM_89 hx hb htg hown hK hP dX12_keep_21 ?_
        refine lv_iconst (v := 1) hx hb dX12_keep_24 (by decide) ?_
        refine lv_iadd hx hb dX12_keep_25 ?_
        refine lv_topi (fun v_20 ev_20 => ?_)
        have t_21 : v_20.toInt = (fv_2 89).toInt + 1 ∧ 1 ≤ v_20.toInt ∧ v_20.toInt ≤ 442 := iv_addc ev_20 i_17 (by decide) (by decide) (by decide)
        have i_23 : 0 ≤ v_20.toInt ∧ v_20.toInt ≤ 441 := (by omega)
        refine pM_89 hx hb htg hown hK hP hS hd dX12_keep_26 (fun H locs fv_24 efv_24 hP hS => ?_)
        have hF_fv_24 : rF fv_24 := rF_put hF_fv_2 efv_24 i_23
        obtain ⟨v_25, ev_25⟩ : ∃ z : Int32, z = x_1 + 1 := ⟨_, rfl⟩
        refine lv_iinc (v := v_25) (lv' := [(3, .int v_25), (0, .ref h), (1, .ref (ad 18)), (2, .int nn)]) hx hb dX12_keep_29 hl (k := 3) rfl (by rw [ev_25]; rfl) (by decide) rfl (fun ls hl => ?_)
        have t_26 : v_25.toInt = x_1.toInt + 1 ∧ 1 ≤ v_25.toInt ∧ v_25.toInt ≤ 40 := iv_addc ev_25 i_14 (by decide) (by decide) (by decide)
        refine lv_goto (tgt := 2) hx hb dX12_keep_32 (by decide) ?_
        have z_28 : (fv_24 89).toInt = v_20.toInt := congrArg Int32.toInt ((congrFun efv_24 89))
        have z_29 : 0 ≤ (fv_24 89).toInt ∧ (fv_24 89).toInt ≤ 441 := hF_fv_24 89
        exact ih_8 v_25 fv_24 ar_19 _ _ ls (by omega) (iv_w t_26.2 (by decide) (by decide)) hF_fv_24 (fM_put (fM_call (fM_rf [89] _) fr_3 (by decide)) efv_24 (by decide)) hA_ar_19 (fA_put (fA_call (fA_rf [88] _) fa_5 (by decide)) ear_19 (by decide)) (by omega) (by omega) hP hS (lv_sub hl [1, 2, 3, 0] rfl)
  · skip
    have z_30 : (0 : Int32).toInt = 0 := by decide
    have z_31 : 0 ≤ (fv 89).toInt ∧ (fv 89).toInt ≤ 441 := hF_fv 89
    exact hj_10 41 0 fv ar _ _ ls (by first | decide | omega) (iv_w (⟨by decide, by decide⟩ : (0 : Int) ≤ (0 : Int32).toInt ∧ (0 : Int32).toInt ≤ 0) (by decide) (by decide)) hF_fv (fM_rf [89] _) hA_ar (fA_rf [88] _) (by omega) (by omega) hP hS (lv_sub hl [1, 2, 3, 0] rfl)
set_option maxHeartbeats 4000000 in
set_option maxRecDepth 100000 in
theorem m_putBack_18 (l : Launch) (dC : Nat → ClassId) (dI : Nat → Nat → Nat) (sz h : Nat) (ad : Nat → Nat) (cA : Nat → ClassId) (hd : dM h ad) (fv : Nat → Int32) (wd : Int64) (ar : Nat → Nat → Int32) (hF_fv : rF fv) (hA_ar : rA ar) (nn : Int32) (h_nn : 0 ≤ nn.toInt ∧ nn.toInt ≤ 40) (hk : (fv 89).toInt + nn.toInt ≤ 441) : Met l yX12_putBack (.code yX12_putBack cX12_putBack 4 none :: lw_good) ({ frames := 2, cells := 0, slots := 0, locals := 40 }) (va_Pc [.ref h, .ref (ad 18), .int nn] (prM dC dI h ad cA fv wd ar sz)) (va_Qv (fun (u : mS) => rF u.1 ∧ rA u.2.2 ∧ fM [89] fv u.1 ∧ fA [18] ar u.2.2 ∧ ((u.1 89).toInt = (fv 89).toInt + nn.toInt) ∧ True) (enM dC dI h ad cA) (aM h ad sz)) 0 0 (aM h ad sz) := by
  refine Met.ofW (cc := cX12_putBack) (maxL := 4) (ret := none) (by decide) rfl ?_
  intro p e s m args below meth c s₁ B hml hv
  obtain ⟨rfl, hsz, hP, hK⟩ := hv
  have hx := B.exec
  have hb := B.bytes
  have hr := B.returns
  have hts := atoms_spec (ws := (.code yX12_putBack cX12_putBack 4 none :: lw_good)) B.pre
  have htg : ∀ w ∈ lw_good, w.before _ s = true := fun w hw => hts w (List.mem_cons_of_mem _ hw)
  have hown : s.vm.findClass RX12 = some m.cls := findClass_of_methodNamed B.named
  have hlocks := B.notSynchronized
  subst hsz
  have hS : va_S (aM h ad s.heap.size) s.heap s.heap [] := va_S.rf
  have hl := lv_entry ([.ref h, .ref (ad 18), .int nn]) (n := 4) (Nat.le_of_ble_eq_true rfl)
  rw [lg_entry_eq]
  generalize (lg_sl ([.ref h, .ref (ad 18), .int nn]) ++ List.replicate (4 - (lg_sl ([.ref h, .ref (ad 18), .int nn])).length) Slot.unset).toArray = ls at hl ⊢
  have hl : lv_has ls 4 [(0, .ref h), (1, .ref (ad 18)), (2, .int nn)] := hl
  refine lv_iconst (v := 0) hx hb dX12_putBack_0 (by decide) ?_
  refine lv_istore_n (lv' := [(3, .int 0), (0, .ref h), (1, .ref (ad 18)), (2, .int nn)]) hx hb dX12_putBack_1 rfl hl (by decide) rfl (fun ls hl => ?_)
  refine my_cut (P := fun R9 a9 Q9 => ∀ (n_8 : Nat) (x_1 : Int32) (fv_2 : Nat → Int32) (ar_4 : Nat → Nat → Int32) (H : Heap) (locs : List Loc) (ls : Array Slot), 40 - x_1.toInt < (n_8 : Int) → (0 ≤ x_1.toInt ∧ x_1.toInt ≤ 40) → rF fv_2 → fM [89] fv fv_2 → rA ar_4 → fA [18] ar ar_4 → ((fv_2 89).toInt = (fv 89).toInt + x_1.toInt) → (x_1.toInt ≤ nn.toInt) → va_P (dC, dI) vwCl (wsM h ad cA fv_2 wd ar_4) H → va_S (aM h ad s.heap.size) s.heap H locs → lv_has ls 4 [(0, .ref h), (1, .ref (ad 18)), (2, .int nn), (3, .int x_1)] → W p l e R9 s m a9 below meth c H locs 0 0 Q9 (F0 m 2 ls [])) ?_ (fun hj_10 => ?_)
  · intro n_8
    induction n_8 with
    | zero => intro x_1 fv_2 ar_4 H locs ls fu_9 i_x_1 hF_fv_2 fr_3 hA_ar_4 fa_5 q_6 q_7; exfalso; omega
    | succ n_8 ih_8 =>
      intro x_1 fv_2 ar_4 H locs ls fu_9 i_x_1 hF_fv_2 fr_3 hA_ar_4 fa_5 q_6 q_7 hP hS hl
      refine lv_iload_n hx hb dX12_putBack_2 rfl (lv_at hl 3 rfl) ?_
      refine lv_iload_n hx hb dX12_putBack_3 rfl (lv_at hl 2 rfl) ?_
      refine lv_icmp_ge (tgt := 35) hx hb dX12_putBack_4 (by decide) (fun c_11 => ?_) (fun c_11 => ?_)
      · skip
        have k_12 := Int32.le_iff_toInt_le.mp c_11
        have z_13 : 0 ≤ (fv_2 89).toInt ∧ (fv_2 89).toInt ≤ 441 := hF_fv_2 89
        exact W.vret hx hb hr (fun t ht hW => ⟨⟨(fv_2, wd, ar_4), rfl, ⟨hF_fv_2, hA_ar_4, (fM_call (fM_rf [89] _) fr_3 (by decide)), (fA_call (fA_rf [18] _) fa_5 (by decide)), (show (fv_2 89).toInt = (fv 89).toInt + nn.toInt from by omega), trivial⟩, ⟨by rw [ht]; exact hP, va_K.moved hW.alike hK⟩⟩, hS.F ht⟩) hS.2.2 dX12_putBack_35
      · skip
        have i_14 : 0 ≤ x_1.toInt ∧ x_1.toInt ≤ 39 := iv_lt1 i_x_1 h_nn (Int32.not_le.mp c_11)
        have i_15 : 1 ≤ nn.toInt ∧ nn.toInt ≤ 40 := iv_lt2 i_x_1 h_nn (Int32.not_le.mp c_11)
        have k_16 := Int32.lt_iff_toInt_lt.mp (Int32.not_le.mp c_11)
        refine lv_aload_n hx hb dX12_putBack_7 rfl (lv_at hl 1 rfl) ?_
        refine lv_iload_n hx hb dX12_putBack_8 rfl (lv_at hl 3 rfl) ?_
        refine lv_aload_n hx hb dX12_putBack_9 rfl (lv_at hl 0 rfl) ?_
        refine gM_88 hx hb htg hown hK hP dX12_putBack_10 ?_
        refine lv_aload_n hx hb dX12_putBack_13 rfl (lv_at hl 0 rfl) ?_
        refine gM_89 hx hb htg hown hK hP dX12_putBack_14 ?_
        have i_17 : 0 ≤ (fv_2 89).toInt ∧ (fv_2 89).toInt ≤ 441 := hF_fv_2 89
        refine lM_88 hx hb hK hP (vp_in_iff.mpr (by omega)) dX12_putBack_17 (fun v_18 ev_18 => ?_)
        refine sM_18 hx hb hK hP hS hd (iv_in i_14 (by decide) (by decide)) dX12_putBack_18 (fun H locs ar_19 ear_19 hP hS => ?_)
        have hA_ar_19 : rA ar_19 := rA_put hA_ar_4 ear_19 (iv_any _)
        refine lv_aload_n hx hb dX12_putBack_19 rfl (lv_at hl 0 rfl) ?_
        refine lv_dup hx hb dX12_putBack_20 rfl ?_
        refine gM_89 hx hb htg hown hK hP dX12_putBack_21 ?_
        refine lv_iconst (v := 1) hx hb dX12_putBack_24 (by decide) ?_
        refine lv_iadd hx hb dX12_putBack_25 ?_
        refine lv_topi (fun v_20 ev_20 => ?_)
        have t_21 : v_20.toInt = (fv_2 89).toInt + 1 ∧ 1 ≤ v_20.toInt ∧ v_20.toInt ≤ 442 := iv_addc ev_20 i_17 (by decide) (by decide) (by decide)
        have i_23 : 0 ≤ v_20.toInt ∧ v_20.toInt ≤ 441 := (by omega)
        refine pM_89 hx hb htg hown hK hP hS hd dX12_putBack_26 (fun H locs fv_24 efv_24 hP hS => ?_)
        have hF_fv_24 : rF fv_24 := rF_put hF_fv_2 efv_24 i_23
        obtain ⟨v_25, ev_25⟩ : ∃ z : Int32, z = x_1 + 1 := ⟨_, rfl⟩
        refine lv_iinc (v := v_25) (lv' := [(3, .int v_25), (0, .ref h), (1, .ref (ad 18)), (2, .int nn)]) hx hb dX12_putBack_29 hl (k := 3) rfl (by rw [ev_25]; rfl) (by decide) rfl (fun ls hl => ?_)
        have t_26 : v_25.toInt = x_1.toInt + 1 ∧ 1 ≤ v_25.toInt ∧ v_25.toInt ≤ 40 := iv_addc ev_25 i_14 (by decide) (by decide) (by decide)
        refine lv_goto (tgt := 2) hx hb dX12_putBack_32 (by decide) ?_
        have z_28 : (fv_24 89).toInt = v_20.toInt := congrArg Int32.toInt ((congrFun efv_24 89))
        have z_29 : 0 ≤ (fv_24 89).toInt ∧ (fv_24 89).toInt ≤ 441 := hF_fv_24 89
        exact ih_8 v_25 fv_24 ar_19 _ _ ls (by omega) (iv_w t_26.2 (by decide) (by decide)) hF_fv_24 (fM_put (fM_call (fM_rf [89] _) fr_3 (by decide)) efv_24 (by decide)) hA_ar_19 (fA_put (fA_call (fA_rf [18] _) fa_5 (by decide)) ear_19 (by decide)) (by omega) (by omega) hP hS (lv_sub hl [1, 2, 3, 0] rfl)
  · skip
    have z_30 : (0 : Int32).toInt = 0 := by decide
    have z_31 : 0 ≤ (fv 89).toInt ∧ (fv 89).toInt ≤ 441 := hF_fv 89
    exact hj_10 41 0 fv ar _ _ ls (by first | decide | omega) (iv_w (⟨by decide, by decide⟩ : (0 : Int) ≤ (0 : Int32).toInt ∧ (0 : Int32).toInt ≤ 0) (by decide) (by decide)) hF_fv (fM_rf [89] _) hA_ar (fA_rf [18] _) (by omega) (by omega) hP hS (lv_sub hl [1, 2, 3, 0] rfl)
set_option maxHeartbeats 4000000 in
set_option maxRecDepth 100000 in
theorem m_keep_72 (l : Launch) (dC : Nat → ClassId) (dI : Nat → Nat → Nat) (sz h : Nat) (ad : Nat → Nat) (cA : Nat → ClassId) (hd : dM h ad) (fv : Nat → Int32) (wd : Int64) (ar : Nat → Nat → Int32) (hF_fv : rF fv) (hA_ar : rA ar) (nn : Int32) (h_nn : 0 ≤ nn.toInt ∧ nn.toInt ≤ 40) (hk : (fv 89).toInt + nn.toInt ≤ 441) : Met l yX12_keep (.code yX12_keep cX12_keep 4 none :: lw_good) ({ frames := 2, cells := 0, slots := 0, locals := 40 }) (va_Pc [.ref h, .ref (ad 72), .int nn] (prM dC dI h ad cA fv wd ar sz)) (va_Qv (fun (u : mS) => rF u.1 ∧ rA u.2.2 ∧ fM [89] fv u.1 ∧ fA [88] ar u.2.2 ∧ ((u.1 89).toInt = (fv 89).toInt + nn.toInt) ∧ True) (enM dC dI h ad cA) (aM h ad sz)) 0 0 (aM h ad sz) := by
  refine Met.ofW (cc := cX12_keep) (maxL := 4) (ret := none) (by decide) rfl ?_
  intro p e s m args below meth c s₁ B hml hv
  obtain ⟨rfl, hsz, hP, hK⟩ := hv
  have hx := B.exec
  have hb := B.bytes
  have hr := B.returns
  have hts := atoms_spec (ws := (.code yX12_keep cX12_keep 4 none :: lw_good)) B.pre
  have htg : ∀ w ∈ lw_good, w.before _ s = true := fun w hw => hts w (List.mem_cons_of_mem _ hw)
  have hown : s.vm.findClass RX12 = some m.cls := findClass_of_methodNamed B.named
  have hlocks := B.notSynchronized
  subst hsz
  have hS : va_S (aM h ad s.heap.size) s.heap s.heap [] := va_S.rf
  have hl := lv_entry ([.ref h, .ref (ad 72), .int nn]) (n := 4) (Nat.le_of_ble_eq_true rfl)
  rw [lg_entry_eq]
  generalize (lg_sl ([.ref h, .ref (ad 72), .int nn]) ++ List.replicate (4 - (lg_sl ([.ref h, .ref (ad 72), .int nn])).length) Slot.unset).toArray = ls at hl ⊢
  have hl : lv_has ls 4 [(0, .ref h), (1, .ref (ad 72)), (2, .int nn)] := hl
  refine lv_iconst (v := 0) hx hb dX12_keep_0 (by decide) ?_
  refine lv_istore_n (lv' := [(3, .int 0), (0, .ref h), (1, .ref (ad 72)), (2, .int nn)]) hx hb dX12_keep_1 rfl hl (by decide) rfl (fun ls hl => ?_)
  refine my_cut (P := fun R9 a9 Q9 => ∀ (n_8 : Nat) (x_1 : Int32) (fv_2 : Nat → Int32) (ar_4 : Nat → Nat → Int32) (H : Heap) (locs : List Loc) (ls : Array Slot), 40 - x_1.toInt < (n_8 : Int) → (0 ≤ x_1.toInt ∧ x_1.toInt ≤ 40) → rF fv_2 → fM [89] fv fv_2 → rA ar_4 → fA [88] ar ar_4 → ((fv_2 89).toInt = (fv 89).toInt + x_1.toInt) → (x_1.toInt ≤ nn.toInt) → va_P (dC, dI) vwCl (wsM h ad cA fv_2 wd ar_4) H → va_S (aM h ad s.heap.size) s.heap H locs → lv_has ls 4 [(0, .ref h), (1, .ref (ad 72)), (2, .int nn), (3, .int x_1)] → W p l e R9 s m a9 below meth c H locs 0 0 Q9 (F0 m 2 ls [])) ?_ (fun hj_10 => ?_)
  · intro n_8
    induction n_8 with
    | zero => intro x_1 fv_2 ar_4 H locs ls fu_9 i_x_1 hF_fv_2 fr_3 hA_ar_4 fa_5 q_6 q_7; exfalso; omega
    | succ n_8 ih_8 =>
      intro x_1 fv_2 ar_4 H locs ls fu_9 i_x_1 hF_fv_2 fr_3 hA_ar_4 fa_5 q_6 q_7 hP hS hl
      refine lv_iload_n hx hb dX12_keep_2 rfl (lv_at hl 3 rfl) ?_
      refine lv_iload_n hx hb dX12_keep_3 rfl (lv_at hl 2 rfl) ?_
      refine lv_icmp_ge (tgt := 35) hx hb dX12_keep_4 (by decide) (fun c_11 => ?_) (fun c_11 => ?_)
      · skip
        have k_12 := Int32.le_iff_toInt_le.mp c_11
        have z_13 : 0 ≤ (fv_2 89).toInt ∧ (fv_2 89).toInt ≤ 441 := hF_fv_2 89
        exact W.vret hx hb hr (fun t ht hW => ⟨⟨(fv_2, wd, ar_4), rfl, ⟨hF_fv_2, hA_ar_4, (fM_call (fM_rf [89] _) fr_3 (by decide)), (fA_call (fA_rf [88] _) fa_5 (by decide)), (show (fv_2 89).toInt = (fv 89).toInt + nn.toInt from by omega), trivial⟩, ⟨by rw [ht]; exact hP, va_K.moved hW.alike hK⟩⟩, hS.F ht⟩) hS.2.2 dX12_keep_35
      · skip
        have i_14 : 0 ≤ x_1.toInt ∧ x_1.toInt ≤ 39 := iv_lt1 i_x_1 h_nn (Int32.not_le.mp c_11)
        have i_15 : 1 ≤ nn.toInt ∧ nn.toInt ≤ 40 := iv_lt2 i_x_1 h_nn (Int32.not_le.mp c_11)
        have k_16 := Int32.lt_iff_toInt_lt.mp (Int32.not_le.mp c_11)
        refine lv_aload_n hx hb dX12_keep_7 rfl (lv_at hl 0 rfl) ?_
        refine gM_88 hx hb htg hown hK hP dX12_keep_8 ?_
        refine lv_aload_n hx hb dX12_keep_11 rfl (lv_at hl 0 rfl) ?_
        refine gM_89 hx hb htg hown hK hP dX12_keep_12 ?_
        have i_17 : 0 ≤ (fv_2 89).toInt ∧ (fv_2 89).toInt ≤ 441 := hF_fv_2 89
        refine lv_aload_n hx hb dX12_keep_15 rfl (lv_at hl 1 rfl) ?_
        refine lv_iload_n hx hb dX12_keep_16 rfl (lv_at hl 3 rfl) ?_
        refine lM_72 hx hb hK hP (iv_in i_14 (by decide) (by decide)) dX12_keep_17 (fun v_18 ev_18 => ?_)
        refine sM_88 hx hb hK hP hS hd (vp_in_iff.mpr (by omega)) dX12_keep_18 (fun H locs ar_19 ear_19 hP hS => ?_)
        have hA_ar_19 : rA ar_19 := rA_put hA_ar_4 ear_19 (iv_any _)
        refine lv_aload_n hx hb dX12_keep_19 rfl (lv_at hl 0 rfl) ?_
        refine lv_dup hx hb dX12_keep_20 rfl ?_
        refine gM_89 hx hb htg hown hK hP dX12_keep_21 ?_
        refine lv_iconst (v := 1) hx hb dX12_keep_24 (by decide) ?_
        refine lv_iadd hx hb dX12_keep_25 ?_
        refine lv_topi (fun v_20 ev_20 => ?_)
        have t_21 : v_20.toInt = (fv_2 89).toInt + 1 ∧ 1 ≤ v_20.toInt ∧ v_20.toInt ≤ 442 := iv_addc ev_20 i_17 (by decide) (by decide) (by decide)
        have i_23 : 0 ≤ v_20.toInt ∧ v_20.toInt ≤ 441 := (by omega)
        refine pM_89 hx hb htg hown hK hP hS hd dX12_keep_26 (fun H locs fv_24 efv_24 hP hS => ?_)
        have hF_fv_24 : rF fv_24 := rF_put hF_fv_2 efv_24 i_23
        obtain ⟨v_25, ev_25⟩ : ∃ z : Int32, z = x_1 + 1 := ⟨_, rfl⟩
        refine lv_iinc (v := v_25) (lv' := [(3, .int v_25), (0, .ref h), (1, .ref (ad 72)), (2, .int nn)]) hx hb dX12_keep_29 hl (k := 3) rfl (by rw [ev_25]; rfl) (by decide) rfl (fun ls hl => ?_)
        have t_26 : v_25.toInt = x_1.toInt + 1 ∧ 1 ≤ v_25.toInt ∧ v_25.toInt ≤ 40 := iv_addc ev_25 i_14 (by decide) (by decide) (by decide)
        refine lv_goto (tgt := 2) hx hb dX12_keep_32 (by decide) ?_
        have z_28 : (fv_24 89).toInt = v_20.toInt := congrArg Int32.toInt ((congrFun efv_24 89))
        have z_29 : 0 ≤ (fv_24 89).toInt ∧ (fv_24 89).toInt ≤ 441 := hF_fv_24 89
        exact ih_8 v_25 fv_24 ar_19 _ _ ls (by omega) (iv_w t_26.2 (by decide) (by decide)) hF_fv_24 (fM_put (fM_call (fM_rf [89] _) fr_3 (by decide)) efv_24 (by decide)) hA_ar_19 (fA_put (fA_call (fA_rf [88] _) fa_5 (by decide)) ear_19 (by decide)) (by omega) (by omega) hP hS (lv_sub hl [1, 2, 3, 0] rfl)
  · skip
    have z_30 : (0 : Int32).toInt = 0 := by decide
    have z_31 : 0 ≤ (fv 89).toInt ∧ (fv 89).toInt ≤ 441 := hF_fv 89
    exact hj_10 41 0 fv ar _ _ ls (by first | decide | omega) (iv_w (⟨by decide, by decide⟩ : (0 : Int) ≤ (0 : Int32).toInt ∧ (0 : Int32).toInt ≤ 0) (by decide) (by decide)) hF_fv (fM_rf [89] _) hA_ar (fA_rf [88] _) (by omega) (by omega) hP hS (lv_sub hl [1, 2, 3, 0] rfl)
set_option maxHeartbeats 4000000 in
set_option maxRecDepth 100000 in
theorem m_putBack_72 (l : Launch) (dC : Nat → ClassId) (dI : Nat → Nat → Nat) (sz h : Nat) (ad : Nat → Nat) (cA : Nat → ClassId) (hd : dM h ad) (fv : Nat → Int32) (wd : Int64) (ar : Nat → Nat → Int32) (hF_fv : rF fv) (hA_ar : rA ar) (nn : Int32) (h_nn : 0 ≤ nn.toInt ∧ nn.toInt ≤ 40) (hk : (fv 89).toInt + nn.toInt ≤ 441) : Met l yX12_putBack (.code yX12_putBack cX12_putBack 4 none :: lw_good) ({ frames := 2, cells := 0, slots := 0, locals := 40 }) (va_Pc [.ref h, .ref (ad 72), .int nn] (prM dC dI h ad cA fv wd ar sz)) (va_Qv (fun (u : mS) => rF u.1 ∧ rA u.2.2 ∧ fM [89] fv u.1 ∧ fA [72] ar u.2.2 ∧ ((u.1 89).toInt = (fv 89).toInt + nn.toInt) ∧ True) (enM dC dI h ad cA) (aM h ad sz)) 0 0 (aM h ad sz) := by
  refine Met.ofW (cc := cX12_putBack) (maxL := 4) (ret := none) (by decide) rfl ?_
  intro p e s m args below meth c s₁ B hml hv
  obtain ⟨rfl, hsz, hP, hK⟩ := hv
  have hx := B.exec
  have hb := B.bytes
  have hr := B.returns
  have hts := atoms_spec (ws := (.code yX12_putBack cX12_putBack 4 none :: lw_good)) B.pre
  have htg : ∀ w ∈ lw_good, w.before _ s = true := fun w hw => hts w (List.mem_cons_of_mem _ hw)
  have hown : s.vm.findClass RX12 = some m.cls := findClass_of_methodNamed B.named
  have hlocks := B.notSynchronized
  subst hsz
  have hS : va_S (aM h ad s.heap.size) s.heap s.heap [] := va_S.rf
  have hl := lv_entry ([.ref h, .ref (ad 72), .int nn]) (n := 4) (Nat.le_of_ble_eq_true rfl)
  rw [lg_entry_eq]
  generalize (lg_sl ([.ref h, .ref (ad 72), .int nn]) ++ List.replicate (4 - (lg_sl ([.ref h, .ref (ad 72), .int nn])).length) Slot.unset).toArray = ls at hl ⊢
  have hl : lv_has ls 4 [(0, .ref h), (1, .ref (ad 72)), (2, .int nn)] := hl
  refine lv_iconst (v := 0) hx hb dX12_putBack_0 (by decide) ?_
  refine lv_istore_n (lv' := [(3, .int 0), (0, .ref h), (1, .ref (ad 72)), (2, .int nn)]) hx hb dX12_putBack_1 rfl hl (by decide) rfl (fun ls hl => ?_)
  refine my_cut (P := fun R9 a9 Q9 => ∀ (n_8 : Nat) (x_1 : Int32) (fv_2 : Nat → Int32) (ar_4 : Nat → Nat → Int32) (H : Heap) (locs : List Loc) (ls : Array Slot), 40 - x_1.toInt < (n_8 : Int) → (0 ≤ x_1.toInt ∧ x_1.toInt ≤ 40) → rF fv_2 → fM [89] fv fv_2 → rA ar_4 → fA [72] ar ar_4 → ((fv_2 89).toInt = (fv 89).toInt + x_1.toInt) → (x_1.toInt ≤ nn.toInt) → va_P (dC, dI) vwCl (wsM h ad cA fv_2 wd ar_4) H → va_S (aM h ad s.heap.size) s.heap H locs → lv_has ls 4 [(0, .ref h), (1, .ref (ad 72)), (2, .int nn), (3, .int x_1)] → W p l e R9 s m a9 below meth c H locs 0 0 Q9 (F0 m 2 ls [])) ?_ (fun hj_10 => ?_)
  · intro n_8
    induction n_8 with
    | zero => intro x_1 fv_2 ar_4 H locs ls fu_9 i_x_1 hF_fv_2 fr_3 hA_ar_4 fa_5 q_6 q_7; exfalso; omega
    | succ n_8 ih_8 =>
      intro x_1 fv_2 ar_4 H locs ls fu_9 i_x_1 hF_fv_2 fr_3 hA_ar_4 fa_5 q_6 q_7 hP hS hl
      refine lv_iload_n hx hb dX12_putBack_2 rfl (lv_at hl 3 rfl) ?_
      refine lv_iload_n hx hb dX12_putBack_3 rfl (lv_at hl 2 rfl) ?_
      refine lv_icmp_ge (tgt := 35) hx hb dX12_putBack_4 (by decide) (fun c_11 => ?_) (fun c_11 => ?_)
      · skip
        have k_12 := Int32.le_iff_toInt_le.mp c_11
        have z_13 : 0 ≤ (fv_2 89).toInt ∧ (fv_2 89).toInt ≤ 441 := hF_fv_2 89
        exact W.vret hx hb hr (fun t ht hW => ⟨⟨(fv_2, wd, ar_4), rfl, ⟨hF_fv_2, hA_ar_4, (fM_call (fM_rf [89] _) fr_3 (by decide)), (fA_call (fA_rf [72] _) fa_5 (by decide)), (show (fv_2 89).toInt = (fv 89).toInt + nn.toInt from by omega), trivial⟩, ⟨by rw [ht]; exact hP, va_K.moved hW.alike hK⟩⟩, hS.F ht⟩) hS.2.2 dX12_putBack_35
      · skip
        have i_14 : 0 ≤ x_1.toInt ∧ x_1.toInt ≤ 39 := iv_lt1 i_x_1 h_nn (Int32.not_le.mp c_11)
        have i_15 : 1 ≤ nn.toInt ∧ nn.toInt ≤ 40 := iv_lt2 i_x_1 h_nn (Int32.not_le.mp c_11)
        have k_16 := Int32.lt_iff_toInt_lt.mp (Int32.not_le.mp c_11)
        refine lv_aload_n hx hb dX12_putBack_7 rfl (lv_at hl 1 rfl) ?_
        refine lv_iload_n hx hb dX12_putBack_8 rfl (lv_at hl 3 rfl) ?_
        refine lv_aload_n hx hb dX12_putBack_9 rfl (lv_at hl 0 rfl) ?_
        refine gM_88 hx hb htg hown hK hP dX12_putBack_10 ?_
        refine lv_aload_n hx hb dX12_putBack_13 rfl (lv_at hl 0 rfl) ?_
        refine gM_89 hx hb htg hown hK hP dX12_putBack_14 ?_
        have i_17 : 0 ≤ (fv_2 89).toInt ∧ (fv_2 89).toInt ≤ 441 := hF_fv_2 89
        refine lM_88 hx hb hK hP (vp_in_iff.mpr (by omega)) dX12_putBack_17 (fun v_18 ev_18 => ?_)
        refine sM_72 hx hb hK hP hS hd (iv_in i_14 (by decide) (by decide)) dX12_putBack_18 (fun H locs ar_19 ear_19 hP hS => ?_)
        have hA_ar_19 : rA ar_19 := rA_put hA_ar_4 ear_19 (iv_any _)
        refine lv_aload_n hx hb dX12_putBack_19 rfl (lv_at hl 0 rfl) ?_
        refine lv_dup hx hb dX12_putBack_20 rfl ?_
        refine gM_89 hx hb htg hown hK hP dX12_putBack_21 ?_
        refine lv_iconst (v := 1) hx hb dX12_putBack_24 (by decide) ?_
        refine lv_iadd hx hb dX12_putBack_25 ?_
        refine lv_topi (fun v_20 ev_20 => ?_)
        have t_21 : v_20.toInt = (fv_2 89).toInt + 1 ∧ 1 ≤ v_20.toInt ∧ v_20.toInt ≤ 442 := iv_addc ev_20 i_17 (by decide) (by decide) (by decide)
        have i_23 : 0 ≤ v_20.toInt ∧ v_20.toInt ≤ 441 := (by omega)
        refine pM_89 hx hb htg hown hK hP hS hd dX12_putBack_26 (fun H locs fv_24 efv_24 hP hS => ?_)
        have hF_fv_24 : rF fv_24 := rF_put hF_fv_2 efv_24 i_23
        obtain ⟨v_25, ev_25⟩ : ∃ z : Int32, z = x_1 + 1 := ⟨_, rfl⟩
        refine lv_iinc (v := v_25) (lv' := [(3, .int v_25), (0, .ref h), (1, .ref (ad 72)), (2, .int nn)]) hx hb dX12_putBack_29 hl (k := 3) rfl (by rw [ev_25]; rfl) (by decide) rfl (fun ls hl => ?_)
        have t_26 : v_25.toInt = x_1.toInt + 1 ∧ 1 ≤ v_25.toInt ∧ v_25.toInt ≤ 40 := iv_addc ev_25 i_14 (by decide) (by decide) (by decide)
        refine lv_goto (tgt := 2) hx hb dX12_putBack_32 (by decide) ?_
        have z_28 : (fv_24 89).toInt = v_20.toInt := congrArg Int32.toInt ((congrFun efv_24 89))
        have z_29 : 0 ≤ (fv_24 89).toInt ∧ (fv_24 89).toInt ≤ 441 := hF_fv_24 89
        exact ih_8 v_25 fv_24 ar_19 _ _ ls (by omega) (iv_w t_26.2 (by decide) (by decide)) hF_fv_24 (fM_put (fM_call (fM_rf [89] _) fr_3 (by decide)) efv_24 (by decide)) hA_ar_19 (fA_put (fA_call (fA_rf [72] _) fa_5 (by decide)) ear_19 (by decide)) (by omega) (by omega) hP hS (lv_sub hl [1, 2, 3, 0] rfl)
  · skip
    have z_30 : (0 : Int32).toInt = 0 := by decide
    have z_31 : 0 ≤ (fv 89).toInt ∧ (fv 89).toInt ≤ 441 := hF_fv 89
    exact hj_10 41 0 fv ar _ _ ls (by first | decide | omega) (iv_w (⟨by decide, by decide⟩ : (0 : Int) ≤ (0 : Int32).toInt ∧ (0 : Int32).toInt ≤ 0) (by decide) (by decide)) hF_fv (fM_rf [89] _) hA_ar (fA_rf [72] _) (by omega) (by omega) hP hS (lv_sub hl [1, 2, 3, 0] rfl)
set_option maxHeartbeats 4000000 in
set_option maxRecDepth 100000 in
theorem m_keep_73 (l : Launch) (dC : Nat → ClassId) (dI : Nat → Nat → Nat) (sz h : Nat) (ad : Nat → Nat) (cA : Nat → ClassId) (hd : dM h ad) (fv : Nat → Int32) (wd : Int64) (ar : Nat → Nat → Int32) (hF_fv : rF fv) (hA_ar : rA ar) (nn : Int32) (h_nn : 0 ≤ nn.toInt ∧ nn.toInt ≤ 40) (hk : (fv 89).toInt + nn.toInt ≤ 441) : Met l yX12_keep (.code yX12_keep cX12_keep 4 none :: lw_good) ({ frames := 2, cells := 0, slots := 0, locals := 40 }) (va_Pc [.ref h, .ref (ad 73), .int nn] (prM dC dI h ad cA fv wd ar sz)) (va_Qv (fun (u : mS) => rF u.1 ∧ rA u.2.2 ∧ fM [89] fv u.1 ∧ fA [88] ar u.2.2 ∧ ((u.1 89).toInt = (fv 89).toInt + nn.toInt) ∧ True) (enM dC dI h ad cA) (aM h ad sz)) 0 0 (aM h ad sz) := by
  refine Met.ofW (cc := cX12_keep) (maxL := 4) (ret := none) (by decide) rfl ?_
  intro p e s m args below meth c s₁ B hml hv
  obtain ⟨rfl, hsz, hP, hK⟩ := hv
  have hx := B.exec
  have hb := B.bytes
  have hr := B.returns
  have hts := atoms_spec (ws := (.code yX12_keep cX12_keep 4 none :: lw_good)) B.pre
  have htg : ∀ w ∈ lw_good, w.before _ s = true := fun w hw => hts w (List.mem_cons_of_mem _ hw)
  have hown : s.vm.findClass RX12 = some m.cls := findClass_of_methodNamed B.named
  have hlocks := B.notSynchronized
  subst hsz
  have hS : va_S (aM h ad s.heap.size) s.heap s.heap [] := va_S.rf
  have hl := lv_entry ([.ref h, .ref (ad 73), .int nn]) (n := 4) (Nat.le_of_ble_eq_true rfl)
  rw [lg_entry_eq]
  generalize (lg_sl ([.ref h, .ref (ad 73), .int nn]) ++ List.replicate (4 - (lg_sl ([.ref h, .ref (ad 73), .int nn])).length) Slot.unset).toArray = ls at hl ⊢
  have hl : lv_has ls 4 [(0, .ref h), (1, .ref (ad 73)), (2, .int nn)] := hl
  refine lv_iconst (v := 0) hx hb dX12_keep_0 (by decide) ?_
  refine lv_istore_n (lv' := [(3, .int 0), (0, .ref h), (1, .ref (ad 73)), (2, .int nn)]) hx hb dX12_keep_1 rfl hl (by decide) rfl (fun ls hl => ?_)
  refine my_cut (P := fun R9 a9 Q9 => ∀ (n_8 : Nat) (x_1 : Int32) (fv_2 : Nat → Int32) (ar_4 : Nat → Nat → Int32) (H : Heap) (locs : List Loc) (ls : Array Slot), 40 - x_1.toInt < (n_8 : Int) → (0 ≤ x_1.toInt ∧ x_1.toInt ≤ 40) → rF fv_2 → fM [89] fv fv_2 → rA ar_4 → fA [88] ar ar_4 → ((fv_2 89).toInt = (fv 89).toInt + x_1.toInt) → (x_1.toInt ≤ nn.toInt) → va_P (dC, dI) vwCl (wsM h ad cA fv_2 wd ar_4) H → va_S (aM h ad s.heap.size) s.heap H locs → lv_has ls 4 [(0, .ref h), (1, .ref (ad 73)), (2, .int nn), (3, .int x_1)] → W p l e R9 s m a9 below meth c H locs 0 0 Q9 (F0 m 2 ls [])) ?_ (fun hj_10 => ?_)
  · intro n_8
    induction n_8 with
    | zero => intro x_1 fv_2 ar_4 H locs ls fu_9 i_x_1 hF_fv_2 fr_3 hA_ar_4 fa_5 q_6 q_7; exfalso; omega
    | succ n_8 ih_8 =>
      intro x_1 fv_2 ar_4 H locs ls fu_9 i_x_1 hF_fv_2 fr_3 hA_ar_4 fa_5 q_6 q_7 hP hS hl
      refine lv_iload_n hx hb dX12_keep_2 rfl (lv_at hl 3 rfl) ?_
      refine lv_iload_n hx hb dX12_keep_3 rfl (lv_at hl 2 rfl) ?_
      refine lv_icmp_ge (tgt := 35) hx hb dX12_keep_4 (by decide) (fun c_11 => ?_) (fun c_11 => ?_)
      · skip
        have k_12 := Int32.le_iff_toInt_le.mp c_11
        have z_13 : 0 ≤ (fv_2 89).toInt ∧ (fv_2 89).toInt ≤ 441 := hF_fv_2 89
        exact W.vret hx hb hr (fun t ht hW => ⟨⟨(fv_2, wd, ar_4), rfl, ⟨hF_fv_2, hA_ar_4, (fM_call (fM_rf [89] _) fr_3 (by decide)), (fA_call (fA_rf [88] _) fa_5 (by decide)), (show (fv_2 89).toInt = (fv 89).toInt + nn.toInt from by omega), trivial⟩, ⟨by rw [ht]; exact hP, va_K.moved hW.alike hK⟩⟩, hS.F ht⟩) hS.2.2 dX12_keep_35
      · skip
        have i_14 : 0 ≤ x_1.toInt ∧ x_1.toInt ≤ 39 := iv_lt1 i_x_1 h_nn (Int32.not_le.mp c_11)
        have i_15 : 1 ≤ nn.toInt ∧ nn.toInt ≤ 40 := iv_lt2 i_x_1 h_nn (Int32.not_le.mp c_11)
        have k_16 := Int32.lt_iff_toInt_lt.mp (Int32.not_le.mp c_11)
        refine lv_aload_n hx hb dX12_keep_7 rfl (lv_at hl 0 rfl) ?_
        refine gM_88 hx hb htg hown hK hP dX12_keep_8 ?_
        refine lv_aload_n hx hb dX12_keep_11 rfl (lv_at hl 0 rfl) ?_
        refine gM_89 hx hb htg hown hK hP dX12_keep_12 ?_
        have i_17 : 0 ≤ (fv_2 89).toInt ∧ (fv_2 89).toInt ≤ 441 := hF_fv_2 89
        refine lv_aload_n hx hb dX12_keep_15 rfl (lv_at hl 1 rfl) ?_
        refine lv_iload_n hx hb dX12_keep_16 rfl (lv_at hl 3 rfl) ?_
        refine lM_73 hx hb hK hP (iv_in i_14 (by decide) (by decide)) dX12_keep_17 (fun v_18 ev_18 => ?_)
        refine sM_88 hx hb hK hP hS hd (vp_in_iff.mpr (by omega)) dX12_keep_18 (fun H locs ar_19 ear_19 hP hS => ?_)
        have hA_ar_19 : rA ar_19 := rA_put hA_ar_4 ear_19 (iv_any _)
        refine lv_aload_n hx hb dX12_keep_19 rfl (lv_at hl 0 rfl) ?_
        refine lv_dup hx hb dX12_keep_20 rfl ?_
        refine gM_89 hx hb htg hown hK hP dX12_keep_21 ?_
        refine lv_iconst (v := 1) hx hb dX12_keep_24 (by decide) ?_
        refine lv_iadd hx hb dX12_keep_25 ?_
        refine lv_topi (fun v_20 ev_20 => ?_)
        have t_21 : v_20.toInt = (fv_2 89).toInt + 1 ∧ 1 ≤ v_20.toInt ∧ v_20.toInt ≤ 442 := iv_addc ev_20 i_17 (by decide) (by decide) (by decide)
        have i_23 : 0 ≤ v_20.toInt ∧ v_20.toInt ≤ 441 := (by omega)
        refine pM_89 hx hb htg hown hK hP hS hd dX12_keep_26 (fun H locs fv_24 efv_24 hP hS => ?_)
        have hF_fv_24 : rF fv_24 := rF_put hF_fv_2 efv_24 i_23
        obtain ⟨v_25, ev_25⟩ : ∃ z : Int32, z = x_1 + 1 := ⟨_, rfl⟩
        refine lv_iinc (v := v_25) (lv' := [(3, .int v_25), (0, .ref h), (1, .ref (ad 73)), (2, .int nn)]) hx hb dX12_keep_29 hl (k := 3) rfl (by rw [ev_25]; rfl) (by decide) rfl (fun ls hl => ?_)
        have t_26 : v_25.toInt = x_1.toInt + 1 ∧ 1 ≤ v_25.toInt ∧ v_25.toInt ≤ 40 := iv_addc ev_25 i_14 (by decide) (by decide) (by decide)
        refine lv_goto (tgt := 2) hx hb dX12_keep_32 (by decide) ?_
        have z_28 : (fv_24 89).toInt = v_20.toInt := congrArg Int32.toInt ((congrFun efv_24 89))
        have z_29 : 0 ≤ (fv_24 89).toInt ∧ (fv_24 89).toInt ≤ 441 := hF_fv_24 89
        exact ih_8 v_25 fv_24 ar_19 _ _ ls (by omega) (iv_w t_26.2 (by decide) (by decide)) hF_fv_24 (fM_put (fM_call (fM_rf [89] _) fr_3 (by decide)) efv_24 (by decide)) hA_ar_19 (fA_put (fA_call (fA_rf [88] _) fa_5 (by decide)) ear_19 (by decide)) (by omega) (by omega) hP hS (lv_sub hl [1, 2, 3, 0] rfl)
  · skip
    have z_30 : (0 : Int32).toInt = 0 := by decide
    have z_31 : 0 ≤ (fv 89).toInt ∧ (fv 89).toInt ≤ 441 := hF_fv 89
    exact hj_10 41 0 fv ar _ _ ls (by first | decide | omega) (iv_w (⟨by decide, by decide⟩ : (0 : Int) ≤ (0 : Int32).toInt ∧ (0 : Int32).toInt ≤ 0) (by decide) (by decide)) hF_fv (fM_rf [89] _) hA_ar (fA_rf [88] _) (by omega) (by omega) hP hS (lv_sub hl [1, 2, 3, 0] rfl)
set_option maxHeartbeats 4000000 in
set_option maxRecDepth 100000 in
theorem m_putBack_73 (l : Launch) (dC : Nat → ClassId) (dI : Nat → Nat → Nat) (sz h : Nat) (ad : Nat → Nat) (cA : Nat → ClassId) (hd : dM h ad) (fv : Nat → Int32) (wd : Int64) (ar : Nat → Nat → Int32) (hF_fv : rF fv) (hA_ar : rA ar) (nn : Int32) (h_nn : 0 ≤ nn.toInt ∧ nn.toInt ≤ 40) (hk : (fv 89).toInt + nn.toInt ≤ 441) : Met l yX12_putBack (.code yX12_putBack cX12_putBack 4 none :: lw_good) ({ frames := 2, cells := 0, slots := 0, locals := 40 }) (va_Pc [.ref h, .ref (ad 73), .int nn] (prM dC dI h ad cA fv wd ar sz)) (va_Qv (fun (u : mS) => rF u.1 ∧ rA u.2.2 ∧ fM [89] fv u.1 ∧ fA [73] ar u.2.2 ∧ ((u.1 89).toInt = (fv 89).toInt + nn.toInt) ∧ True) (enM dC dI h ad cA) (aM h ad sz)) 0 0 (aM h ad sz) := by
  refine Met.ofW (cc := cX12_putBack) (maxL := 4) (ret := none) (by decide) rfl ?_
  intro p e s m args below meth c s₁ B hml hv
  obtain ⟨rfl, hsz, hP, hK⟩ := hv
  have hx := B.exec
  have hb := B.bytes
  have hr := B.returns
  have hts := atoms_spec (ws := (.code yX12_putBack cX12_putBack 4 none :: lw_good)) B.pre
  have htg : ∀ w ∈ lw_good, w.before _ s = true := fun w hw => hts w (List.mem_cons_of_mem _ hw)
  have hown : s.vm.findClass RX12 = some m.cls := findClass_of_methodNamed B.named
  have hlocks := B.notSynchronized
  subst hsz
  have hS : va_S (aM h ad s.heap.size) s.heap s.heap [] := va_S.rf
  have hl := lv_entry ([.ref h, .ref (ad 73), .int nn]) (n := 4) (Nat.le_of_ble_eq_true rfl)
  rw [lg_entry_eq]
  generalize (lg_sl ([.ref h, .ref (ad 73), .int nn]) ++ List.replicate (4 - (lg_sl ([.ref h, .ref (ad 73), .int nn])).length) Slot.unset).toArray = ls at hl ⊢
  have hl : lv_has ls 4 [(0, .ref h), (1, .ref (ad 73)), (2, .int nn)] := hl
  refine lv_iconst (v := 0) hx hb dX12_putBack_0 (by decide) ?_
  refine lv_istore_n (lv' := [(3, .int 0), (0, .ref h), (1, .ref (ad 73)), (2, .int nn)]) hx hb dX12_putBack_1 rfl hl (by decide) rfl (fun ls hl => ?_)
  refine my_cut (P := fun R9 a9 Q9 => ∀ (n_8 : Nat) (x_1 : Int32) (fv_2 : Nat → Int32) (ar_4 : Nat → Nat → Int32) (H : Heap) (locs : List Loc) (ls : Array Slot), 40 - x_1.toInt < (n_8 : Int) → (0 ≤ x_1.toInt ∧ x_1.toInt ≤ 40) → rF fv_2 → fM [89] fv fv_2 → rA ar_4 → fA [73] ar ar_4 → ((fv_2 89).toInt = (fv 89).toInt + x_1.toInt) → (x_1.toInt ≤ nn.toInt) → va_P (dC, dI) vwCl (wsM h ad cA fv_2 wd ar_4) H → va_S (aM h ad s.heap.size) s.heap H locs → lv_has ls 4 [(0, .ref h), (1, .ref (ad 73)), (2, .int nn), (3, .int x_1)] → W p l e R9 s m a9 below meth c H locs 0 0 Q9 (F0 m 2 ls [])) ?_ (fun hj_10 => ?_)
  · intro n_8
    induction n_8 with
    | zero => intro x_1 fv_2 ar_4 H locs ls fu_9 i_x_1 hF_fv_2 fr_3 hA_ar_4 fa_5 q_6 q_7; exfalso; omega
    | succ n_8 ih_8 =>
      intro x_1 fv_2 ar_4 H locs ls fu_9 i_x_1 hF_fv_2 fr_3 hA_ar_4 fa_5 q_6 q_7 hP hS hl
      refine lv_iload_n hx hb dX12_putBack_2 rfl (lv_at hl 3 rfl) ?_
      refine lv_iload_n hx hb dX12_putBack_3 rfl (lv_at hl 2 rfl) ?_
      refine lv_icmp_ge (tgt := 35) hx hb dX12_putBack_4 (by decide) (fun c_11 => ?_) (fun c_11 => ?_)
      · skip
        have k_12 := Int32.le_iff_toInt_le.mp c_11
        have z_13 : 0 ≤ (fv_2 89).toInt ∧ (fv_2 89).toInt ≤ 441 := hF_fv_2 89
        exact W.vret hx hb hr (fun t ht hW => ⟨⟨(fv_2, wd, ar_4), rfl, ⟨hF_fv_2, hA_ar_4, (fM_call (fM_rf [89] _) fr_3 (by decide)), (fA_call (fA_rf [73] _) fa_5 (by decide)), (show (fv_2 89).toInt = (fv 89).toInt + nn.toInt from by omega), trivial⟩, ⟨by rw [ht]; exact hP, va_K.moved hW.alike hK⟩⟩, hS.F ht⟩) hS.2.2 dX12_putBack_35
      · skip
        have i_14 : 0 ≤ x_1.toInt ∧ x_1.toInt ≤ 39 := iv_lt1 i_x_1 h_nn (Int32.not_le.mp c_11)
        have i_15 : 1 ≤ nn.toInt ∧ nn.toInt ≤ 40 := iv_lt2 i_x_1 h_nn (Int32.not_le.mp c_11)
        have k_16 := Int32.lt_iff_toInt_lt.mp (Int32.not_le.mp c_11)
        refine lv_aload_n hx hb dX12_putBack_7 rfl (lv_at hl 1 rfl) ?_
        refine lv_iload_n hx hb dX12_putBack_8 rfl (lv_at hl 3 rfl) ?_
        refine lv_aload_n hx hb dX12_putBack_9 rfl (lv_at hl 0 rfl) ?_
        refine gM_88 hx hb htg hown hK hP dX12_putBack_10 ?_
        refine lv_aload_n hx hb dX12_putBack_13 rfl (lv_at hl 0 rfl) ?_
        refine gM_89 hx hb htg hown hK hP dX12_putBack_14 ?_
        have i_17 : 0 ≤ (fv_2 89).toInt ∧ (fv_2 89).toInt ≤ 441 := hF_fv_2 89
        refine lM_88 hx hb hK hP (vp_in_iff.mpr (by omega)) dX12_putBack_17 (fun v_18 ev_18 => ?_)
        refine sM_73 hx hb hK hP hS hd (iv_in i_14 (by decide) (by decide)) dX12_putBack_18 (fun H locs ar_19 ear_19 hP hS => ?_)
        have hA_ar_19 : rA ar_19 := rA_put hA_ar_4 ear_19 (iv_any _)
        refine lv_aload_n hx hb dX12_putBack_19 rfl (lv_at hl 0 rfl) ?_
        refine lv_dup hx hb dX12_putBack_20 rfl ?_
        refine gM_89 hx hb htg hown hK hP dX12_putBack_21 ?_
        refine lv_iconst (v := 1) hx hb dX12_putBack_24 (by decide) ?_
        refine lv_iadd hx hb dX12_putBack_25 ?_
        refine lv_topi (fun v_20 ev_20 => ?_)
        have t_21 : v_20.toInt = (fv_2 89).toInt + 1 ∧ 1 ≤ v_20.toInt ∧ v_20.toInt ≤ 442 := iv_addc ev_20 i_17 (by decide) (by decide) (by decide)
        have i_23 : 0 ≤ v_20.toInt ∧ v_20.toInt ≤ 441 := (by omega)
        refine pM_89 hx hb htg hown hK hP hS hd dX12_putBack_26 (fun H locs fv_24 efv_24 hP hS => ?_)
        have hF_fv_24 : rF fv_24 := rF_put hF_fv_2 efv_24 i_23
        obtain ⟨v_25, ev_25⟩ : ∃ z : Int32, z = x_1 + 1 := ⟨_, rfl⟩
        refine lv_iinc (v := v_25) (lv' := [(3, .int v_25), (0, .ref h), (1, .ref (ad 73)), (2, .int nn)]) hx hb dX12_putBack_29 hl (k := 3) rfl (by rw [ev_25]; rfl) (by decide) rfl (fun ls hl => ?_)
        have t_26 : v_25.toInt = x_1.toInt + 1 ∧ 1 ≤ v_25.toInt ∧ v_25.toInt ≤ 40 := iv_addc ev_25 i_14 (by decide) (by decide) (by decide)
        refine lv_goto (tgt := 2) hx hb dX12_putBack_32 (by decide) ?_
        have z_28 : (fv_24 89).toInt = v_20.toInt := congrArg Int32.toInt ((congrFun efv_24 89))
        have z_29 : 0 ≤ (fv_24 89).toInt ∧ (fv_24 89).toInt ≤ 441 := hF_fv_24 89
        exact ih_8 v_25 fv_24 ar_19 _ _ ls (by omega) (iv_w t_26.2 (by decide) (by decide)) hF_fv_24 (fM_put (fM_call (fM_rf [89] _) fr_3 (by decide)) efv_24 (by decide)) hA_ar_19 (fA_put (fA_call (fA_rf [73] _) fa_5 (by decide)) ear_19 (by decide)) (by omega) (by omega) hP hS (lv_sub hl [1, 2, 3, 0] rfl)
  · skip
    have z_30 : (0 : Int32).toInt = 0 := by decide
    have z_31 : 0 ≤ (fv 89).toInt ∧ (fv 89).toInt ≤ 441 := hF_fv 89
    exact hj_10 41 0 fv ar _ _ ls (by first | decide | omega) (iv_w (⟨by decide, by decide⟩ : (0 : Int) ≤ (0 : Int32).toInt ∧ (0 : Int32).toInt ≤ 0) (by decide) (by decide)) hF_fv (fM_rf [89] _) hA_ar (fA_rf [73] _) (by omega) (by omega) hP hS (lv_sub hl [1, 2, 3, 0] rfl)
set_option maxHeartbeats 4000000 in
set_option maxRecDepth 100000 in
theorem m_keep_74 (l : Launch) (dC : Nat → ClassId) (dI : Nat → Nat → Nat) (sz h : Nat) (ad : Nat → Nat) (cA : Nat → ClassId) (hd : dM h ad) (fv : Nat → Int32) (wd : Int64) (ar : Nat → Nat → Int32) (hF_fv : rF fv) (hA_ar : rA ar) (nn : Int32) (h_nn : 0 ≤ nn.toInt ∧ nn.toInt ≤ 40) (hk : (fv 89).toInt + nn.toInt ≤ 441) : Met l yX12_keep (.code yX12_keep cX12_keep 4 none :: lw_good) ({ frames := 2, cells := 0, slots := 0, locals := 40 }) (va_Pc [.ref h, .ref (ad 74), .int nn] (prM dC dI h ad cA fv wd ar sz)) (va_Qv (fun (u : mS) => rF u.1 ∧ rA u.2.2 ∧ fM [89] fv u.1 ∧ fA [88] ar u.2.2 ∧ ((u.1 89).toInt = (fv 89).toInt + nn.toInt) ∧ True) (enM dC dI h ad cA) (aM h ad sz)) 0 0 (aM h ad sz) := by
  refine Met.ofW (cc := cX12_keep) (maxL := 4) (ret := none) (by decide) rfl ?_
  intro p e s m args below meth c s₁ B hml hv
  obtain ⟨rfl, hsz, hP, hK⟩ := hv
  have hx := B.exec
  have hb := B.bytes
  have hr := B.returns
  have hts := atoms_spec (ws := (.code yX12_keep cX12_keep 4 none :: lw_good)) B.pre
  have htg : ∀ w ∈ lw_good, w.before _ s = true := fun w hw => hts w (List.mem_cons_of_mem _ hw)
  have hown : s.vm.findClass RX12 = some m.cls := findClass_of_methodNamed B.named
  have hlocks := B.notSynchronized
  subst hsz
  have hS : va_S (aM h ad s.heap.size) s.heap s.heap [] := va_S.rf
  have hl := lv_entry ([.ref h, .ref (ad 74), .int nn]) (n := 4) (Nat.le_of_ble_eq_true rfl)
  rw [lg_entry_eq]
  generalize (lg_sl ([.ref h, .ref (ad 74), .int nn]) ++ List.replicate (4 - (lg_sl ([.ref h, .ref (ad 74), .int nn])).length) Slot.unset).toArray = ls at hl ⊢
  have hl : lv_has ls 4 [(0, .ref h), (1, .ref (ad 74)), (2, .int nn)] := hl
  refine lv_iconst (v := 0) hx hb dX12_keep_0 (by decide) ?_
  refine lv_istore_n (lv' := [(3, .int 0), (0, .ref h), (1, .ref (ad 74)), (2, .int nn)]) hx hb dX12_keep_1 rfl hl (by decide) rfl (fun ls hl => ?_)
  refine my_cut (P := fun R9 a9 Q9 => ∀ (n_8 : Nat) (x_1 : Int32) (fv_2 : Nat → Int32) (ar_4 : Nat → Nat → Int32) (H : Heap) (locs : List Loc) (ls : Array Slot), 40 - x_1.toInt < (n_8 : Int) → (0 ≤ x_1.toInt ∧ x_1.toInt ≤ 40) → rF fv_2 → fM [89] fv fv_2 → rA ar_4 → fA [88] ar ar_4 → ((fv_2 89).toInt = (fv 89).toInt + x_1.toInt) → (x_1.toInt ≤ nn.toInt) → va_P (dC, dI) vwCl (wsM h ad cA fv_2 wd ar_4) H → va_S (aM h ad s.heap.size) s.heap H locs → lv_has ls 4 [(0, .ref h), (1, .ref (ad 74)), (2, .int nn), (3, .int x_1)] → W p l e R9 s m a9 below meth c H locs 0 0 Q9 (F0 m 2 ls [])) ?_ (fun hj_10 => ?_)
  · intro n_8
    induction n_8 with
    | zero => intro x_1 fv_2 ar_4 H locs ls fu_9 i_x_1 hF_fv_2 fr_3 hA_ar_4 fa_5 q_6 q_7; exfalso; omega
    | succ n_8 ih_8 =>
      intro x_1 fv_2 ar_4 H locs ls fu_9 i_x_1 hF_fv_2 fr_3 hA_ar_4 fa_5 q_6 q_7 hP hS hl
      refine lv_iload_n hx hb dX12_keep_2 rfl (lv_at hl 3 rfl) ?_
      refine lv_iload_n hx hb dX12_keep_3 rfl (lv_at hl 2 rfl) ?_
      refine lv_icmp_ge (tgt := 35) hx hb dX12_keep_4 (by decide) (fun c_11 => ?_) (fun c_11 => ?_)
      · skip
        have k_12 := Int32.le_iff_toInt_le.mp c_11
        have z_13 : 0 ≤ (fv_2 89).toInt ∧ (fv_2 89).toInt ≤ 441 := hF_fv_2 89
        exact W.vret hx hb hr (fun t ht hW => ⟨⟨(fv_2, wd, ar_4), rfl, ⟨hF_fv_2, hA_ar_4, (fM_call (fM_rf [89] _) fr_3 (by decide)), (fA_call (fA_rf [88] _) fa_5 (by decide)), (show (fv_2 89).toInt = (fv 89).toInt + nn.toInt from by omega), trivial⟩, ⟨by rw [ht]; exact hP, va_K.moved hW.alike hK⟩⟩, hS.F ht⟩) hS.2.2 dX12_keep_35
      · skip
        have i_14 : 0 ≤ x_1.toInt ∧ x_1.toInt ≤ 39 := iv_lt1 i_x_1 h_nn (Int32.not_le.mp c_11)
        have i_15 : 1 ≤ nn.toInt ∧ nn.toInt ≤ 40 := iv_lt2 i_x_1 h_nn (Int32.not_le.mp c_11)
        have k_16 := Int32.lt_iff_toInt_lt.mp (Int32.not_le.mp c_11)
        refine lv_aload_n hx hb dX12_keep_7 rfl (lv_at hl 0 rfl) ?_
        refine gM_88 hx hb htg hown hK hP dX12_keep_8 ?_
        refine lv_aload_n hx hb dX12_keep_11 rfl (lv_at hl 0 rfl) ?_
        refine gM_89 hx hb htg hown hK hP dX12_keep_12 ?_
        have i_17 : 0 ≤ (fv_2 89).toInt ∧ (fv_2 89).toInt ≤ 441 := hF_fv_2 89
        refine lv_aload_n hx hb dX12_keep_15 rfl (lv_at hl 1 rfl) ?_
        refine lv_iload_n hx hb dX12_keep_16 rfl (lv_at hl 3 rfl) ?_
        refine lM_74 hx hb hK hP (iv_in i_14 (by decide) (by decide)) dX12_keep_17 (fun v_18 ev_18 => ?_)
        refine sM_88 hx hb hK hP hS hd (vp_in_iff.mpr (by omega)) dX12_keep_18 (fun H locs ar_19 ear_19 hP hS => ?_)
        have hA_ar_19 : rA ar_19 := rA_put hA_ar_4 ear_19 (iv_any _)
        refine lv_aload_n hx hb dX12_keep_19 rfl (lv_at hl 0 rfl) ?_
        refine lv_dup hx hb dX12_keep_20 rfl ?_
        refine gM_89 hx hb htg hown hK hP dX12_keep_21 ?_
        refine lv_iconst (v := 1) hx hb dX12_keep_24 (by decide) ?_
        refine lv_iadd hx hb dX12_keep_25 ?_
        refine lv_topi (fun v_20 ev_20 => ?_)
        have t_21 : v_20.toInt = (fv_2 89).toInt + 1 ∧ 1 ≤ v_20.toInt ∧ v_20.toInt ≤ 442 := iv_addc ev_20 i_17 (by decide) (by decide) (by decide)
        have i_23 : 0 ≤ v_20.toInt ∧ v_20.toInt ≤ 441 := (by omega)
        refine pM_89 hx hb htg hown hK hP hS hd dX12_keep_26 (fun H locs fv_24 efv_24 hP hS => ?_)
        have hF_fv_24 : rF fv_24 := rF_put hF_fv_2 efv_24 i_23
        obtain ⟨v_25, ev_25⟩ : ∃ z : Int32, z = x_1 + 1 := ⟨_, rfl⟩
        refine lv_iinc (v := v_25) (lv' := [(3, .int v_25), (0, .ref h), (1, .ref (ad 74)), (2, .int nn)]) hx hb dX12_keep_29 hl (k := 3) rfl (by rw [ev_25]; rfl) (by decide) rfl (fun ls hl => ?_)
        have t_26 : v_25.toInt = x_1.toInt + 1 ∧ 1 ≤ v_25.toInt ∧ v_25.toInt ≤ 40 := iv_addc ev_25 i_14 (by decide) (by decide) (by decide)
        refine lv_goto (tgt := 2) hx hb dX12_keep_32 (by decide) ?_
        have z_28 : (fv_24 89).toInt = v_20.toInt := congrArg Int32.toInt ((congrFun efv_24 89))
        have z_29 : 0 ≤ (fv_24 89).toInt ∧ (fv_24 89).toInt ≤ 441 := hF_fv_24 89
        exact ih_8 v_25 fv_24 ar_19 _ _ ls (by omega) (iv_w t_26.2 (by decide) (by decide)) hF_fv_24 (fM_put (fM_call (fM_rf [89] _) fr_3 (by decide)) efv_24 (by decide)) hA_ar_19 (fA_put (fA_call (fA_rf [88] _) fa_5 (by decide)) ear_19 (by decide)) (by omega) (by omega) hP hS (lv_sub hl [1, 2, 3, 0] rfl)
  · skip
    have z_30 : (0 : Int32).toInt = 0 := by decide
    have z_31 : 0 ≤ (fv 89).toInt ∧ (fv 89).toInt ≤ 441 := hF_fv 89
    exact hj_10 41 0 fv ar _ _ ls (by first | decide | omega) (iv_w (⟨by decide, by decide⟩ : (0 : Int) ≤ (0 : Int32).toInt ∧ (0 : Int32).toInt ≤ 0) (by decide) (by decide)) hF_fv (fM_rf [89] _) hA_ar (fA_rf [88] _) (by omega) (by omega) hP hS (lv_sub hl [1, 2, 3, 0] rfl)
set_option maxHeartbeats 4000000 in
set_option maxRecDepth 100000 in
theorem m_putBack_74 (l : Launch) (dC : Nat → ClassId) (dI : Nat → Nat → Nat) (sz h : Nat) (ad : Nat → Nat) (cA : Nat → ClassId) (hd : dM h ad) (fv : Nat → Int32) (wd : Int64) (ar : Nat → Nat → Int32) (hF_fv : rF fv) (hA_ar : rA ar) (nn : Int32) (h_nn : 0 ≤ nn.toInt ∧ nn.toInt ≤ 40) (hk : (fv 89).toInt + nn.toInt ≤ 441) : Met l yX12_putBack (.code yX12_putBack cX12_putBack 4 none :: lw_good) ({ frames := 2, cells := 0, slots := 0, locals := 40 }) (va_Pc [.ref h, .ref (ad 74), .int nn] (prM dC dI h ad cA fv wd ar sz)) (va_Qv (fun (u : mS) => rF u.1 ∧ rA u.2.2 ∧ fM [89] fv u.1 ∧ fA [74] ar u.2.2 ∧ ((u.1 89).toInt = (fv 89).toInt + nn.toInt) ∧ True) (enM dC dI h ad cA) (aM h ad sz)) 0 0 (aM h ad sz) := by
  refine Met.ofW (cc := cX12_putBack) (maxL := 4) (ret := none) (by decide) rfl ?_
  intro p e s m args below meth c s₁ B hml hv
  obtain ⟨rfl, hsz, hP, hK⟩ := hv
  have hx := B.exec
  have hb := B.bytes
  have hr := B.returns
  have hts := atoms_spec (ws := (.code yX12_putBack cX12_putBack 4 none :: lw_good)) B.pre
  have htg : ∀ w ∈ lw_good, w.before _ s = true := fun w hw => hts w (List.mem_cons_of_mem _ hw)
  have hown : s.vm.findClass RX12 = some m.cls := findClass_of_methodNamed B.named
  have hlocks := B.notSynchronized
  subst hsz
  have hS : va_S (aM h ad s.heap.size) s.heap s.heap [] := va_S.rf
  have hl := lv_entry ([.ref h, .ref (ad 74), .int nn]) (n := 4) (Nat.le_of_ble_eq_true rfl)
  rw [lg_entry_eq]
  generalize (lg_sl ([.ref h, .ref (ad 74), .int nn]) ++ List.replicate (4 - (lg_sl ([.ref h, .ref (ad 74), .int nn])).length) Slot.unset).toArray = ls at hl ⊢
  have hl : lv_has ls 4 [(0, .ref h), (1, .ref (ad 74)), (2, .int nn)] := hl
  refine lv_iconst (v := 0) hx hb dX12_putBack_0 (by decide) ?_
  refine lv_istore_n (lv' := [(3, .int 0), (0, .ref h), (1, .ref (ad 74)), (2, .int nn)]) hx hb dX12_putBack_1 rfl hl (by decide) rfl (fun ls hl => ?_)
  refine my_cut (P := fun R9 a9 Q9 => ∀ (n_8 : Nat) (x_1 : Int32) (fv_2 : Nat → Int32) (ar_4 : Nat → Nat → Int32) (H : Heap) (locs : List Loc) (ls : Array Slot), 40 - x_1.toInt < (n_8 : Int) → (0 ≤ x_1.toInt ∧ x_1.toInt ≤ 40) → rF fv_2 → fM [89] fv fv_2 → rA ar_4 → fA [74] ar ar_4 → ((fv_2 89).toInt = (fv 89).toInt + x_1.toInt) → (x_1.toInt ≤ nn.toInt) → va_P (dC, dI) vwCl (wsM h ad cA fv_2 wd ar_4) H → va_S (aM h ad s.heap.size) s.heap H locs → lv_has ls 4 [(0, .ref h), (1, .ref (ad 74)), (2, .int nn), (3, .int x_1)] → W p l e R9 s m a9 below meth c H locs 0 0 Q9 (F0 m 2 ls [])) ?_ (fun hj_10 => ?_)
  · intro n_8
    induction n_8 with
    | zero => intro x_1 fv_2 ar_4 H locs ls fu_9 i_x_1 hF_fv_2 fr_3 hA_ar_4 fa_5 q_6 q_7; exfalso; omega
    | succ n_8 ih_8 =>
      intro x_1 fv_2 ar_4 H locs ls fu_9 i_x_1 hF_fv_2 fr_3 hA_ar_4 fa_5 q_6 q_7 hP hS hl
      refine lv_iload_n hx hb dX12_putBack_2 rfl (lv_at hl 3 rfl) ?_
      refine lv_iload_n hx hb dX12_putBack_3 rfl (lv_at hl 2 rfl) ?_
      refine lv_icmp_ge (tgt := 35) hx hb dX12_putBack_4 (by decide) (fun c_11 => ?_) (fun c_11 => ?_)
      · skip
        have k_12 := Int32.le_iff_toInt_le.mp c_11
        have z_13 : 0 ≤ (fv_2 89).toInt ∧ (fv_2 89).toInt ≤ 441 := hF_fv_2 89
        exact W.vret hx hb hr (fun t ht hW => ⟨⟨(fv_2, wd, ar_4), rfl, ⟨hF_fv_2, hA_ar_4, (fM_call (fM_rf [89] _) fr_3 (by decide)), (fA_call (fA_rf [74] _) fa_5 (by decide)), (show (fv_2 89).toInt = (fv 89).toInt + nn.toInt from by omega), trivial⟩, ⟨by rw [ht]; exact hP, va_K.moved hW.alike hK⟩⟩, hS.F ht⟩) hS.2.2 dX12_putBack_35
      · skip
        have i_14 : 0 ≤ x_1.toInt ∧ x_1.toInt ≤ 39 := iv_lt1 i_x_1 h_nn (Int32.not_le.mp c_11)
        have i_15 : 1 ≤ nn.toInt ∧ nn.toInt ≤ 40 := iv_lt2 i_x_1 h_nn (Int32.not_le.mp c_11)
        have k_16 := Int32.lt_iff_toInt_lt.mp (Int32.not_le.mp c_11)
        refine lv_aload_n hx hb dX12_putBack_7 rfl (lv_at hl 1 rfl) ?_
        refine lv_iload_n hx hb dX12_putBack_8 rfl (lv_at hl 3 rfl) ?_
        refine lv_aload_n hx hb dX12_putBack_9 rfl (lv_at hl 0 rfl) ?_
        refine gM_88 hx hb htg hown hK hP dX12_putBack_10 ?_
        refine lv_aload_n hx hb dX12_putBack_13 rfl (lv_at hl 0 rfl) ?_
        refine gM_89 hx hb htg hown hK hP dX12_putBack_14 ?_
        have i_17 : 0 ≤ (fv_2 89).toInt ∧ (fv_2 89).toInt ≤ 441 := hF_fv_2 89
        refine lM_88 hx hb hK hP (vp_in_iff.mpr (by omega)) dX12_putBack_17 (fun v_18 ev_18 => ?_)
        refine sM_74 hx hb hK hP hS hd (iv_in i_14 (by decide) (by decide)) dX12_putBack_18 (fun H locs ar_19 ear_19 hP hS => ?_)
        have hA_ar_19 : rA ar_19 := rA_put hA_ar_4 ear_19 (iv_any _)
        refine lv_aload_n hx hb dX12_putBack_19 rfl (lv_at hl 0 rfl) ?_
        refine lv_dup hx hb dX12_putBack_20 rfl ?_
        refine gM_89 hx hb htg hown hK hP dX12_putBack_21 ?_
        refine lv_iconst (v := 1) hx hb dX12_putBack_24 (by decide) ?_
        refine lv_iadd hx hb dX12_putBack_25 ?_
        refine lv_topi (fun v_20 ev_20 => ?_)
        have t_21 : v_20.toInt = (fv_2 89).toInt + 1 ∧ 1 ≤ v_20.toInt ∧ v_20.toInt ≤ 442 := iv_addc ev_20 i_17 (by decide) (by decide) (by decide)
        have i_23 : 0 ≤ v_20.toInt ∧ v_20.toInt ≤ 441 := (by omega)
        refine pM_89 hx hb htg hown hK hP hS hd dX12_putBack_26 (fun H locs fv_24 efv_24 hP hS => ?_)
        have hF_fv_24 : rF fv_24 := rF_put hF_fv_2 efv_24 i_23
        obtain ⟨v_25, ev_25⟩ : ∃ z : Int32, z = x_1 + 1 := ⟨_, rfl⟩
        refine lv_iinc (v := v_25) (lv' := [(3, .int v_25), (0, .ref h), (1, .ref (ad 74)), (2, .int nn)]) hx hb dX12_putBack_29 hl (k := 3) rfl (by rw [ev_25]; rfl) (by decide) rfl (fun ls hl => ?_)
        have t_26 : v_25.toInt = x_1.toInt + 1 ∧ 1 ≤ v_25.toInt ∧ v_25.toInt ≤ 40 := iv_addc ev_25 i_14 (by decide) (by decide) (by decide)
        refine lv_goto (tgt := 2) hx hb dX12_putBack_32 (by decide) ?_
        have z_28 : (fv_24 89).toInt = v_20.toInt := congrArg Int32.toInt ((congrFun efv_24 89))
        have z_29 : 0 ≤ (fv_24 89).toInt ∧ (fv_24 89).toInt ≤ 441 := hF_fv_24 89
        exact ih_8 v_25 fv_24 ar_19 _ _ ls (by omega) (iv_w t_26.2 (by decide) (by decide)) hF_fv_24 (fM_put (fM_call (fM_rf [89] _) fr_3 (by decide)) efv_24 (by decide)) hA_ar_19 (fA_put (fA_call (fA_rf [74] _) fa_5 (by decide)) ear_19 (by decide)) (by omega) (by omega) hP hS (lv_sub hl [1, 2, 3, 0] rfl)
  · skip
    have z_30 : (0 : Int32).toInt = 0 := by decide
    have z_31 : 0 ≤ (fv 89).toInt ∧ (fv 89).toInt ≤ 441 := hF_fv 89
    exact hj_10 41 0 fv ar _ _ ls (by first | decide | omega) (iv_w (⟨by decide, by decide⟩ : (0 : Int) ≤ (0 : Int32).toInt ∧ (0 : Int32).toInt ≤ 0) (by decide) (by decide)) hF_fv (fM_rf [89] _) hA_ar (fA_rf [74] _) (by omega) (by omega) hP hS (lv_sub hl [1, 2, 3, 0] rfl)
set_option maxHeartbeats 4000000 in
set_option maxRecDepth 100000 in
theorem m_keep_75 (l : Launch) (dC : Nat → ClassId) (dI : Nat → Nat → Nat) (sz h : Nat) (ad : Nat → Nat) (cA : Nat → ClassId) (hd : dM h ad) (fv : Nat → Int32) (wd : Int64) (ar : Nat → Nat → Int32) (hF_fv : rF fv) (hA_ar : rA ar) (nn : Int32) (h_nn : 0 ≤ nn.toInt ∧ nn.toInt ≤ 40) (hk : (fv 89).toInt + nn.toInt ≤ 441) : Met l yX12_keep (.code yX12_keep cX12_keep 4 none :: lw_good) ({ frames := 2, cells := 0, slots := 0, locals := 40 }) (va_Pc [.ref h, .ref (ad 75), .int nn] (prM dC dI h ad cA fv wd ar sz)) (va_Qv (fun (u : mS) => rF u.1 ∧ rA u.2.2 ∧ fM [89] fv u.1 ∧ fA [88] ar u.2.2 ∧ ((u.1 89).toInt = (fv 89).toInt + nn.toInt) ∧ True) (enM dC dI h ad cA) (aM h ad sz)) 0 0 (aM h ad sz) := by
  refine Met.ofW (cc := cX12_keep) (maxL := 4) (ret := none) (by decide) rfl ?_
  intro p e s m args below meth c s₁ B hml hv
  obtain ⟨rfl, hsz, hP, hK⟩ := hv
  have hx := B.exec
  have hb := B.bytes
  have hr := B.returns
  have hts := atoms_spec (ws := (.code yX12_keep cX12_keep 4 none :: lw_good)) B.pre
  have htg : ∀ w ∈ lw_good, w.before _ s = true := fun w hw => hts w (List.mem_cons_of_mem _ hw)
  have hown : s.vm.findClass RX12 = some m.cls := findClass_of_methodNamed B.named
  have hlocks := B.notSynchronized
  subst hsz
  have hS : va_S (aM h ad s.heap.size) s.heap s.heap [] := va_S.rf
  have hl := lv_entry ([.ref h, .ref (ad 75), .int nn]) (n := 4) (Nat.le_of_ble_eq_true rfl)
  rw [lg_entry_eq]
  generalize (lg_sl ([.ref h, .ref (ad 75), .int nn]) ++ List.replicate (4 - (lg_sl ([.ref h, .ref (ad 75), .int nn])).length) Slot.unset).toArray = ls at hl ⊢
  have hl : lv_has ls 4 [(0, .ref h), (1, .ref (ad 75)), (2, .int nn)] := hl
  refine lv_iconst (v := 0) hx hb dX12_keep_0 (by decide) ?_
  refine lv_istore_n (lv' := [(3, .int 0), (0, .ref h), (1, .ref (ad 75)), (2, .int nn)]) hx hb dX12_keep_1 rfl hl (by decide) rfl (fun ls hl => ?_)
  refine my_cut (P := fun R9 a9 Q9 => ∀ (n_8 : Nat) (x_1 : Int32) (fv_2 : Nat → Int32) (ar_4 : Nat → Nat → Int32) (H : Heap) (locs : List Loc) (ls : Array Slot), 40 - x_1.toInt < (n_8 : Int) → (0 ≤ x_1.toInt ∧ x_1.toInt ≤ 40) → rF fv_2 → fM [89] fv fv_2 → rA ar_4 → fA [88] ar ar_4 → ((fv_2 89).toInt = (fv 89).toInt + x_1.toInt) → (x_1.toInt ≤ nn.toInt) → va_P (dC, dI) vwCl (wsM h ad cA fv_2 wd ar_4) H → va_S (aM h ad s.heap.size) s.heap H locs → lv_has ls 4 [(0, .ref h), (1, .ref (ad 75)), (2, .int nn), (3, .int x_1)] → W p l e R9 s m a9 below meth c H locs 0 0 Q9 (F0 m 2 ls [])) ?_ (fun hj_10 => ?_)
  · intro n_8
    induction n_8 with
    | zero => intro x_1 fv_2 ar_4 H locs ls fu_9 i_x_1 hF_fv_2 fr_3 hA_ar_4 fa_5 q_6 q_7; exfalso; omega
    | succ n_8 ih_8 =>
      intro x_1 fv_2 ar_4 H locs ls fu_9 i_x_1 hF_fv_2 fr_3 hA_ar_4 fa_5 q_6 q_7 hP hS hl
      refine lv_iload_n hx hb dX12_keep_2 rfl (lv_at hl 3 rfl) ?_
      refine lv_iload_n hx hb dX12_keep_3 rfl (lv_at hl 2 rfl) ?_
      refine lv_icmp_ge (tgt := 35) hx hb dX12_keep_4 (by decide) (fun c_11 => ?_) (fun c_11 => ?_)
      · skip
        have k_12 := Int32.le_iff_toInt_le.mp c_11
        have z_13 : 0 ≤ (fv_2 89).toInt ∧ (fv_2 89).toInt ≤ 441 := hF_fv_2 89
        exact W.vret hx hb hr (fun t ht hW => ⟨⟨(fv_2, wd, ar_4), rfl, ⟨hF_fv_2, hA_ar_4, (fM_call (fM_rf [89] _) fr_3 (by decide)), (fA_call (fA_rf [88] _) fa_5 (by decide)), (show (fv_2 89).toInt = (fv 89).toInt + nn.toInt from by omega), trivial⟩, ⟨by rw [ht]; exact hP, va_K.moved hW.alike hK⟩⟩, hS.F ht⟩) hS.2.2 dX12_keep_35
      · skip
        have i_14 : 0 ≤ x_1.toInt ∧ x_1.toInt ≤ 39 := iv_lt1 i_x_1 h_nn (Int32.not_le.mp c_11)
        have i_15 : 1 ≤ nn.toInt ∧ nn.toInt ≤ 40 := iv_lt2 i_x_1 h_nn (Int32.not_le.mp c_11)
        have k_16 := Int32.lt_iff_toInt_lt.mp (Int32.not_le.mp c_11)
        refine lv_aload_n hx hb dX12_keep_7 rfl (lv_at hl 0 rfl) ?_
        refine gM_88 hx hb htg hown hK hP dX12_keep_8 ?_
        refine lv_aload_n hx hb dX12_keep_11 rfl (lv_at hl 0 rfl) ?_
        refine gM_89 hx hb htg hown hK hP dX12_keep_12 ?_
        have i_17 : 0 ≤ (fv_2 89).toInt ∧ (fv_2 89).toInt ≤ 441 := hF_fv_2 89
        refine lv_aload_n hx hb dX12_keep_15 rfl (lv_at hl 1 rfl) ?_
        refine lv_iload_n hx hb dX12_keep_16 rfl (lv_at hl 3 rfl) ?_
        refine lM_75 hx hb hK hP (iv_in i_14 (by decide) (by decide)) dX12_keep_17 (fun v_18 ev_18 => ?_)
        refine sM_88 hx hb hK hP hS hd (vp_in_iff.mpr (by omega)) dX12_keep_18 (fun H locs ar_19 ear_19 hP hS => ?_)
        have hA_ar_19 : rA ar_19 := rA_put hA_ar_4 ear_19 (iv_any _)
        refine lv_aload_n hx hb dX12_keep_19 rfl (lv_at hl 0 rfl) ?_
        refine lv_dup hx hb dX12_keep_20 rfl ?_
        refine gM_89 hx hb htg hown hK hP dX12_keep_21 ?_
        refine lv_iconst (v := 1) hx hb dX12_keep_24 (by decide) ?_
        refine lv_iadd hx hb dX12_keep_25 ?_
        refine lv_topi (fun v_20 ev_20 => ?_)
        have t_21 : v_20.toInt = (fv_2 89).toInt + 1 ∧ 1 ≤ v_20.toInt ∧ v_20.toInt ≤ 442 := iv_addc ev_20 i_17 (by decide) (by decide) (by decide)
        have i_23 : 0 ≤ v_20.toInt ∧ v_20.toInt ≤ 441 := (by omega)
        refine pM_89 hx hb htg hown hK hP hS hd dX12_keep_26 (fun H locs fv_24 efv_24 hP hS => ?_)
        have hF_fv_24 : rF fv_24 := rF_put hF_fv_2 efv_24 i_23
        obtain ⟨v_25, ev_25⟩ : ∃ z : Int32, z = x_1 + 1 := ⟨_, rfl⟩
        refine lv_iinc (v := v_25) (lv' := [(3, .int v_25), (0, .ref h), (1, .ref (ad 75)), (2, .int nn)]) hx hb dX12_keep_29 hl (k := 3) rfl (by rw [ev_25]; rfl) (by decide) rfl (fun ls hl => ?_)
        have t_26 : v_25.toInt = x_1.toInt + 1 ∧ 1 ≤ v_25.toInt ∧ v_25.toInt ≤ 40 := iv_addc ev_25 i_14 (by decide) (by decide) (by decide)
        refine lv_goto (tgt := 2) hx hb dX12_keep_32 (by decide) ?_
        have z_28 : (fv_24 89).toInt = v_20.toInt := congrArg Int32.toInt ((congrFun efv_24 89))
        have z_29 : 0 ≤ (fv_24 89).toInt ∧ (fv_24 89).toInt ≤ 441 := hF_fv_24 89
        exact ih_8 v_25 fv_24 ar_19 _ _ ls (by omega) (iv_w t_26.2 (by decide) (by decide)) hF_fv_24 (fM_put (fM_call (fM_rf [89] _) fr_3 (by decide)) efv_24 (by decide)) hA_ar_19 (fA_put (fA_call (fA_rf [88] _) fa_5 (by decide)) ear_19 (by decide)) (by omega) (by omega) hP hS (lv_sub hl [1, 2, 3, 0] rfl)
  · skip
    have z_30 : (0 : Int32).toInt = 0 := by decide
    have z_31 : 0 ≤ (fv 89).toInt ∧ (fv 89).toInt ≤ 441 := hF_fv 89
    exact hj_10 41 0 fv ar _ _ ls (by first | decide | omega) (iv_w (⟨by decide, by decide⟩ : (0 : Int) ≤ (0 : Int32).toInt ∧ (0 : Int32).toInt ≤ 0) (by decide) (by decide)) hF_fv (fM_rf [89] _) hA_ar (fA_rf [88] _) (by omega) (by omega) hP hS (lv_sub hl [1, 2, 3, 0] rfl)
set_option maxHeartbeats 4000000 in
set_option maxRecDepth 100000 in
theorem m_putBack_75 (l : Launch) (dC : Nat → ClassId) (dI : Nat → Nat → Nat) (sz h : Nat) (ad : Nat → Nat) (cA : Nat → ClassId) (hd : dM h ad) (fv : Nat → Int32) (wd : Int64) (ar : Nat → Nat → Int32) (hF_fv : rF fv) (hA_ar : rA ar) (nn : Int32) (h_nn : 0 ≤ nn.toInt ∧ nn.toInt ≤ 40) (hk : (fv 89).toInt + nn.toInt ≤ 441) : Met l yX12_putBack (.code yX12_putBack cX12_putBack 4 none :: lw_good) ({ frames := 2, cells := 0, slots := 0, locals := 40 }) (va_Pc [.ref h, .ref (ad 75), .int nn] (prM dC dI h ad cA fv wd ar sz)) (va_Qv (fun (u : mS) => rF u.1 ∧ rA u.2.2 ∧ fM [89] fv u.1 ∧ fA [75] ar u.2.2 ∧ ((u.1 89).toInt = (fv 89).toInt + nn.toInt) ∧ True) (enM dC dI h ad cA) (aM h ad sz)) 0 0 (aM h ad sz) := by
  refine Met.ofW (cc := cX12_putBack) (maxL := 4) (ret := none) (by decide) rfl ?_
  intro p e s m args below meth c s₁ B hml hv
  obtain ⟨rfl, hsz, hP, hK⟩ := hv
  have hx := B.exec
  have hb := B.bytes
  have hr := B.returns
  have hts := atoms_spec (ws := (.code yX12_putBack cX12_putBack 4 none :: lw_good)) B.pre
  have htg : ∀ w ∈ lw_good, w.before _ s = true := fun w hw => hts w (List.mem_cons_of_mem _ hw)
  have hown : s.vm.findClass RX12 = some m.cls := findClass_of_methodNamed B.named
  have hlocks := B.notSynchronized
  subst hsz
  have hS : va_S (aM h ad s.heap.size) s.heap s.heap [] := va_S.rf
  have hl := lv_entry ([.ref h, .ref (ad 75), .int nn]) (n := 4) (Nat.le_of_ble_eq_true rfl)
  rw [lg_entry_eq]
  generalize (lg_sl ([.ref h, .ref (ad 75), .int nn]) ++ List.replicate (4 - (lg_sl ([.ref h, .ref (ad 75), .int nn])).length) Slot.unset).toArray = ls at hl ⊢
  have hl : lv_has ls 4 [(0, .ref h), (1, .ref (ad 75)), (2, .int nn)] := hl
  refine lv_iconst (v := 0) hx hb dX12_putBack_0 (by decide) ?_
  refine lv_istore_n (lv' := [(3, .int 0), (0, .ref h), (1, .ref (ad 75)), (2, .int nn)]) hx hb dX12_putBack_1 rfl hl (by decide) rfl (fun ls hl => ?_)
  refine my_cut (P := fun R9 a9 Q9 => ∀ (n_8 : Nat) (x_1 : Int32) (fv_2 : Nat → Int32) (ar_4 : Nat → Nat → Int32) (H : Heap) (locs : List Loc) (ls : Array Slot), 40 - x_1.toInt < (n_8 : Int) → (0 ≤ x_1.toInt ∧ x_1.toInt ≤ 40) → rF fv_2 → fM [89] fv fv_2 → rA ar_4 → fA [75] ar ar_4 → ((fv_2 89).toInt = (fv 89).toInt + x_1.toInt) → (x_1.toInt ≤ nn.toInt) → va_P (dC, dI) vwCl (wsM h ad cA fv_2 wd ar_4) H → va_S (aM h ad s.heap.size) s.heap H locs → lv_has ls 4 [(0, .ref h), (1, .ref (ad 75)), (2, .int nn), (3, .int x_1)] → W p l e R9 s m a9 below meth c H locs 0 0 Q9 (F0 m 2 ls [])) ?_ (fun hj_10 => ?_)
  · intro n_8
    induction n_8 with
    | zero => intro x_1 fv_2 ar_4 H locs ls fu_9 i_x_1 hF_fv_2 fr_3 hA_ar_4 fa_5 q_6 q_7; exfalso; omega
    | succ n_8 ih_8 =>
      intro x_1 fv_2 ar_4 H locs ls fu_9 i_x_1 hF_fv_2 fr_3 hA_ar_4 fa_5 q_6 q_7 hP hS hl
      refine lv_iload_n hx hb dX12_putBack_2 rfl (lv_at hl 3 rfl) ?_
      refine lv_iload_n hx hb dX12_putBack_3 rfl (lv_at hl 2 rfl) ?_
      refine lv_icmp_ge (tgt := 35) hx hb dX12_putBack_4 (by decide) (fun c_11 => ?_) (fun c_11 => ?_)
      · skip
        have k_12 := Int32.le_iff_toInt_le.mp c_11
        have z_13 : 0 ≤ (fv_2 89).toInt ∧ (fv_2 89).toInt ≤ 441 := hF_fv_2 89
        exact W.vret hx hb hr (fun t ht hW => ⟨⟨(fv_2, wd, ar_4), rfl, ⟨hF_fv_2, hA_ar_4, (fM_call (fM_rf [89] _) fr_3 (by decide)), (fA_call (fA_rf [75] _) fa_5 (by decide)), (show (fv_2 89).toInt = (fv 89).toInt + nn.toInt from by omega), trivial⟩, ⟨by rw [ht]; exact hP, va_K.moved hW.alike hK⟩⟩, hS.F ht⟩) hS.2.2 dX12_putBack_35
      · skip
        have i_14 : 0 ≤ x_1.toInt ∧ x_1.toInt ≤ 39 := iv_lt1 i_x_1 h_nn (Int32.not_le.mp c_11)
        have i_15 : 1 ≤ nn.toInt ∧ nn.toInt ≤ 40 := iv_lt2 i_x_1 h_nn (Int32.not_le.mp c_11)
        have k_16 := Int32.lt_iff_toInt_lt.mp (Int32.not_le.mp c_11)
        refine lv_aload_n hx hb dX12_putBack_7 rfl (lv_at hl 1 rfl) ?_
        refine lv_iload_n hx hb dX12_putBack_8 rfl (lv_at hl 3 rfl) ?_
        refine lv_aload_n hx hb dX12_putBack_9 rfl (lv_at hl 0 rfl) ?_
        refine gM_88 hx hb htg hown hK hP dX12_putBack_10 ?_
        refine lv_aload_n hx hb dX12_putBack_13 rfl (lv_at hl 0 rfl) ?_
        refine gM_89 hx hb htg hown hK hP dX12_putBack_14 ?_
        have i_17 : 0 ≤ (fv_2 89).toInt ∧ (fv_2 89).toInt ≤ 441 := hF_fv_2 89
        refine lM_88 hx hb hK hP (vp_in_iff.mpr (by omega)) dX12_putBack_17 (fun v_18 ev_18 => ?_)
        refine sM_75 hx hb hK hP hS hd (iv_in i_14 (by decide) (by decide)) dX12_putBack_18 (fun H locs ar_19 ear_19 hP hS => ?_)
        have hA_ar_19 : rA ar_19 := rA_put hA_ar_4 ear_19 (iv_any _)
        refine lv_aload_n hx hb dX12_putBack_19 rfl (lv_at hl 0 rfl) ?_
        refine lv_dup hx hb dX12_putBack_20 rfl ?_
        refine gM_89 hx hb htg hown hK hP dX12_putBack_21 ?_
        refine lv_iconst (v := 1) hx hb dX12_putBack_24 (by decide) ?_
        refine lv_iadd hx hb dX12_putBack_25 ?_
        refine lv_topi (fun v_20 ev_20 => ?_)
        have t_21 : v_20.toInt = (fv_2 89).toInt + 1 ∧ 1 ≤ v_20.toInt ∧ v_20.toInt ≤ 442 := iv_addc ev_20 i_17 (by decide) (by decide) (by decide)
        have i_23 : 0 ≤ v_20.toInt ∧ v_20.toInt ≤ 441 := (by omega)
        refine pM_89 hx hb htg hown hK hP hS hd dX12_putBack_26 (fun H locs fv_24 efv_24 hP hS => ?_)
        have hF_fv_24 : rF fv_24 := rF_put hF_fv_2 efv_24 i_23
        obtain ⟨v_25, ev_25⟩ : ∃ z : Int32, z = x_1 + 1 := ⟨_, rfl⟩
        refine lv_iinc (v := v_25) (lv' := [(3, .int v_25), (0, .ref h), (1, .ref (ad 75)), (2, .int nn)]) hx hb dX12_putBack_29 hl (k := 3) rfl (by rw [ev_25]; rfl) (by decide) rfl (fun ls hl => ?_)
        have t_26 : v_25.toInt = x_1.toInt + 1 ∧ 1 ≤ v_25.toInt ∧ v_25.toInt ≤ 40 := iv_addc ev_25 i_14 (by decide) (by decide) (by decide)
        refine lv_goto (tgt := 2) hx hb dX12_putBack_32 (by decide) ?_
        have z_28 : (fv_24 89).toInt = v_20.toInt := congrArg Int32.toInt ((congrFun efv_24 89))
        have z_29 : 0 ≤ (fv_24 89).toInt ∧ (fv_24 89).toInt ≤ 441 := hF_fv_24 89
        exact ih_8 v_25 fv_24 ar_19 _ _ ls (by omega) (iv_w t_26.2 (by decide) (by decide)) hF_fv_24 (fM_put (fM_call (fM_rf [89] _) fr_3 (by decide)) efv_24 (by decide)) hA_ar_19 (fA_put (fA_call (fA_rf [75] _) fa_5 (by decide)) ear_19 (by decide)) (by omega) (by omega) hP hS (lv_sub hl [1, 2, 3, 0] rfl)
  · skip
    have z_30 : (0 : Int32).toInt = 0 := by decide
    have z_31 : 0 ≤ (fv 89).toInt ∧ (fv 89).toInt ≤ 441 := hF_fv 89
    exact hj_10 41 0 fv ar _ _ ls (by first | decide | omega) (iv_w (⟨by decide, by decide⟩ : (0 : Int) ≤ (0 : Int32).toInt ∧ (0 : Int32).toInt ≤ 0) (by decide) (by decide)) hF_fv (fM_rf [89] _) hA_ar (fA_rf [75] _) (by omega) (by omega) hP hS (lv_sub hl [1, 2, 3, 0] rfl)
set_option maxHeartbeats 4000000 in
set_option maxRecDepth 100000 in
theorem m_keep_24 (l : Launch) (dC : Nat → ClassId) (dI : Nat → Nat → Nat) (sz h : Nat) (ad : Nat → Nat) (cA : Nat → ClassId) (hd : dM h ad) (fv : Nat → Int32) (wd : Int64) (ar : Nat → Nat → Int32) (hF_fv : rF fv) (hA_ar : rA ar) (nn : Int32) (h_nn : 0 ≤ nn.toInt ∧ nn.toInt ≤ 20) (hk : (fv 89).toInt + nn.toInt ≤ 441) : Met l yX12_keep (.code yX12_keep cX12_keep 4 none :: lw_good) ({ frames := 2, cells := 0, slots := 0, locals := 40 }) (va_Pc [.ref h, .ref (ad 24), .int nn] (prM dC dI h ad cA fv wd ar sz)) (va_Qv (fun (u : mS) => rF u.1 ∧ rA u.2.2 ∧ fM [89] fv u.1 ∧ fA [88] ar u.2.2 ∧ ((u.1 89).toInt = (fv 89).toInt + nn.toInt) ∧ True) (enM dC dI h ad cA) (aM h ad sz)) 0 0 (aM h ad sz) := by
  refine Met.ofW (cc := cX12_keep) (maxL := 4) (ret := none) (by decide) rfl ?_
  intro p e s m args below meth c s₁ B hml hv
  obtain ⟨rfl, hsz, hP, hK⟩ := hv
  have hx := B.exec
  have hb := B.bytes
  have hr := B.returns
  have hts := atoms_spec (ws := (.code yX12_keep cX12_keep 4 none :: lw_good)) B.pre
  have htg : ∀ w ∈ lw_good, w.before _ s = true := fun w hw => hts w (List.mem_cons_of_mem _ hw)
  have hown : s.vm.findClass RX12 = some m.cls := findClass_of_methodNamed B.named
  have hlocks := B.notSynchronized
  subst hsz
  have hS : va_S (aM h ad s.heap.size) s.heap s.heap [] := va_S.rf
  have hl := lv_entry ([.ref h, .ref (ad 24), .int nn]) (n := 4) (Nat.le_of_ble_eq_true rfl)
  rw [lg_entry_eq]
  generalize (lg_sl ([.ref h, .ref (ad 24), .int nn]) ++ List.replicate (4 - (lg_sl ([.ref h, .ref (ad 24), .int nn])).length) Slot.unset).toArray = ls at hl ⊢
  have hl : lv_has ls 4 [(0, .ref h), (1, .ref (ad 24)), (2, .int nn)] := hl
  refine lv_iconst (v := 0) hx hb dX12_keep_0 (by decide) ?_
  refine lv_istore_n (lv' := [(3, .int 0), (0, .ref h), (1, .ref (ad 24)), (2, .int nn)]) hx hb dX12_keep_1 rfl hl (by decide) rfl (fun ls hl => ?_)
  refine my_cut (P := fun R9 a9 Q9 => ∀ (n_8 : Nat) (x_1 : Int32) (fv_2 : Nat → Int32) (ar_4 : Nat → Nat → Int32) (H : Heap) (locs : List Loc) (ls : Array Slot), 20 - x_1.toInt < (n_8 : Int) → (0 ≤ x_1.toInt ∧ x_1.toInt ≤ 20) → rF fv_2 → fM [89] fv fv_2 → rA ar_4 → fA [88] ar ar_4 → ((fv_2 89).toInt = (fv 89).toInt + x_1.toInt) → (x_1.toInt ≤ nn.toInt) → va_P (dC, dI) vwCl (wsM h ad cA fv_2 wd ar_4) H → va_S (aM h ad s.heap.size) s.heap H locs → lv_has ls 4 [(0, .ref h), (1, .ref (ad 24)), (2, .int nn), (3, .int x_1)] → W p l e R9 s m a9 below meth c H locs 0 0 Q9 (F0 m 2 ls [])) ?_ (fun hj_10 => ?_)
  · intro n_8
    induction n_8 with
    | zero => intro x_1 fv_2 ar_4 H locs ls fu_9 i_x_1 hF_fv_2 fr_3 hA_ar_4 fa_5 q_6 q_7; exfalso; omega
    | succ n_8 ih_8 =>
      intro x_1 fv_2 ar_4 H locs ls fu_9 i_x_1 hF_fv_2 fr_3 hA_ar_4 fa_5 q_6 q_7 hP hS hl
      refine lv_iload_n hx hb dX12_keep_2 rfl (lv_at hl 3 rfl) ?_
      refine lv_iload_n hx hb dX12_keep_3 rfl (lv_at hl 2 rfl) ?_
      refine lv_icmp_ge (tgt := 35) hx hb dX12_keep_4 (by decide) (fun c_11 => ?_) (fun c_11 => ?_)
      · skip
        have k_12 := Int32.le_iff_toInt_le.mp c_11
        have z_13 : 0 ≤ (fv_2 89).toInt ∧ (fv_2 89).toInt ≤ 441 := hF_fv_2 89
        exact W.vret hx hb hr (fun t ht hW => ⟨⟨(fv_2, wd, ar_4), rfl, ⟨hF_fv_2, hA_ar_4, (fM_call (fM_rf [89] _) fr_3 (by decide)), (fA_call (fA_rf [88] _) fa_5 (by decide)), (show (fv_2 89).toInt = (fv 89).toInt + nn.toInt from by omega), trivial⟩, ⟨by rw [ht]; exact hP, va_K.moved hW.alike hK⟩⟩, hS.F ht⟩) hS.2.2 dX12_keep_35
      · skip
        have i_14 : 0 ≤ x_1.toInt ∧ x_1.toInt ≤ 19 := iv_lt1 i_x_1 h_nn (Int32.not_le.mp c_11)
        have i_15 : 1 ≤ nn.toInt ∧ nn.toInt ≤ 20 := iv_lt2 i_x_1 h_nn (Int32.not_le.mp c_11)
        have k_16 := Int32.lt_iff_toInt_lt.mp (Int32.not_le.mp c_11)
        refine lv_aload_n hx hb dX12_keep_7 rfl (lv_at hl 0 rfl) ?_
        refine gM_88 hx hb htg hown hK hP dX12_keep_8 ?_
        refine lv_aload_n hx hb dX12_keep_11 rfl (lv_at hl 0 rfl) ?_
        refine gM_89 hx hb htg hown hK hP dX12_keep_12 ?_
        have i_17 : 0 ≤ (fv_2 89).toInt ∧ (fv_2 89).toInt ≤ 441 := hF_fv_2 89
        refine lv_aload_n hx hb dX12_keep_15 rfl (lv_at hl 1 rfl) ?_
        refine lv_iload_n hx hb dX12_keep_16 rfl (lv_at hl 3 rfl) ?_
        refine lM_24 hx hb hK hP (iv_in i_14 (by decide) (by decide)) dX12_keep_17 (fun v_18 ev_18 => ?_)
        refine sM_88 hx hb hK hP hS hd (vp_in_iff.mpr (by omega)) dX12_keep_18 (fun H locs ar_19 ear_19 hP hS => ?_)
        have hA_ar_19 : rA ar_19 := rA_put hA_ar_4 ear_19 (iv_any _)
        refine lv_aload_n hx hb dX12_keep_19 rfl (lv_at hl 0 rfl) ?_
        refine lv_dup hx hb dX12_keep_20 rfl ?_
        refine gM_89 hx hb htg hown hK hP dX12_keep_21 ?_
        refine lv_iconst (v := 1) hx hb dX12_keep_24 (by decide) ?_
        refine lv_iadd hx hb dX12_keep_25 ?_
        refine lv_topi (fun v_20 ev_20 => ?_)
        have t_21 : v_20.toInt = (fv_2 89).toInt + 1 ∧ 1 ≤ v_20.toInt ∧ v_20.toInt ≤ 442 := iv_addc ev_20 i_17 (by decide) (by decide) (by decide)
        have i_23 : 0 ≤ v_20.toInt ∧ v_20.toInt ≤ 441 := (by omega)
        refine pM_89 hx hb htg hown hK hP hS hd dX12_keep_26 (fun H locs fv_24 efv_24 hP hS => ?_)
        have hF_fv_24 : rF fv_24 := rF_put hF_fv_2 efv_24 i_23
        obtain ⟨v_25, ev_25⟩ : ∃ z : Int32, z = x_1 + 1 := ⟨_, rfl⟩
        refine lv_iinc (v := v_25) (lv' := [(3, .int v_25), (0, .ref h), (1, .ref (ad 24)), (2, .int nn)]) hx hb dX12_keep_29 hl (k := 3) rfl (by rw [ev_25]; rfl) (by decide) rfl (fun ls hl => ?_)
        have t_26 : v_25.toInt = x_1.toInt + 1 ∧ 1 ≤ v_25.toInt ∧ v_25.toInt ≤ 20 := iv_addc ev_25 i_14 (by decide) (by decide) (by decide)
        refine lv_goto (tgt := 2) hx hb dX12_keep_32 (by decide) ?_
        have z_28 : (fv_24 89).toInt = v_20.toInt := congrArg Int32.toInt ((congrFun efv_24 89))
        have z_29 : 0 ≤ (fv_24 89).toInt ∧ (fv_24 89).toInt ≤ 441 := hF_fv_24 89
        exact ih_8 v_25 fv_24 ar_19 _ _ ls (by omega) (iv_w t_26.2 (by decide) (by decide)) hF_fv_24 (fM_put (fM_call (fM_rf [89] _) fr_3 (by decide)) efv_24 (by decide)) hA_ar_19 (fA_put (fA_call (fA_rf [88] _) fa_5 (by decide)) ear_19 (by decide)) (by omega) (by omega) hP hS (lv_sub hl [1, 2, 3, 0] rfl)
  · skip
    have z_30 : (0 : Int32).toInt = 0 := by decide
    have z_31 : 0 ≤ (fv 89).toInt ∧ (fv 89).toInt ≤ 441 := hF_fv 89
    exact hj_10 21 0 fv ar _ _ ls (by first | decide | omega) (iv_w (⟨by decide, by decide⟩ : (0 : Int) ≤ (0 : Int32).toInt ∧ (0 : Int32).toInt ≤ 0) (by decide) (by decide)) hF_fv (fM_rf [89] _) hA_ar (fA_rf [88] _) (by omega) (by omega) hP hS (lv_sub hl [1, 2, 3, 0] rfl)
set_option maxHeartbeats 4000000 in
set_option maxRecDepth 100000 in
theorem m_putBack_24 (l : Launch) (dC : Nat → ClassId) (dI : Nat → Nat → Nat) (sz h : Nat) (ad : Nat → Nat) (cA : Nat → ClassId) (hd : dM h ad) (fv : Nat → Int32) (wd : Int64) (ar : Nat → Nat → Int32) (hF_fv : rF fv) (hA_ar : rA ar) (nn : Int32) (h_nn : 0 ≤ nn.toInt ∧ nn.toInt ≤ 20) (hk : (fv 89).toInt + nn.toInt ≤ 441) : Met l yX12_putBack (.code yX12_putBack cX12_putBack 4 none :: lw_good) ({ frames := 2, cells := 0, slots := 0, locals := 40 }) (va_Pc [.ref h, .ref (ad 24), .int nn] (prM dC dI h ad cA fv wd ar sz)) (va_Qv (fun (u : mS) => rF u.1 ∧ rA u.2.2 ∧ fM [89] fv u.1 ∧ fA [24] ar u.2.2 ∧ ((u.1 89).toInt = (fv 89).toInt + nn.toInt) ∧ True) (enM dC dI h ad cA) (aM h ad sz)) 0 0 (aM h ad sz) := by
  refine Met.ofW (cc := cX12_putBack) (maxL := 4) (ret := none) (by decide) rfl ?_
  intro p e s m args below meth c s₁ B hml hv
  obtain ⟨rfl, hsz, hP, hK⟩ := hv
  have hx := B.exec
  have hb := B.bytes
  have hr := B.returns
  have hts := atoms_spec (ws := (.code yX12_putBack cX12_putBack 4 none :: lw_good)) B.pre
  have htg : ∀ w ∈ lw_good, w.before _ s = true := fun w hw => hts w (List.mem_cons_of_mem _ hw)
  have hown : s.vm.findClass RX12 = some m.cls := findClass_of_methodNamed B.named
  have hlocks := B.notSynchronized
  subst hsz
  have hS : va_S (aM h ad s.heap.size) s.heap s.heap [] := va_S.rf
  have hl := lv_entry ([.ref h, .ref (ad 24), .int nn]) (n := 4) (Nat.le_of_ble_eq_true rfl)
  rw [lg_entry_eq]
  generalize (lg_sl ([.ref h, .ref (ad 24), .int nn]) ++ List.replicate (4 - (lg_sl ([.ref h, .ref (ad 24), .int nn])).length) Slot.unset).toArray = ls at hl ⊢
  have hl : lv_has ls 4 [(0, .ref h), (1, .ref (ad 24)), (2, .int nn)] := hl
  refine lv_iconst (v := 0) hx hb dX12_putBack_0 (by decide) ?_
  refine lv_istore_n (lv' := [(3, .int 0), (0, .ref h), (1, .ref (ad 24)), (2, .int nn)]) hx hb dX12_putBack_1 rfl hl (by decide) rfl (fun ls hl => ?_)
  refine my_cut (P := fun R9 a9 Q9 => ∀ (n_8 : Nat) (x_1 : Int32) (fv_2 : Nat → Int32) (ar_4 : Nat → Nat → Int32) (H : Heap) (locs : List Loc) (ls : Array Slot), 20 - x_1.toInt < (n_8 : Int) → (0 ≤ x_1.toInt ∧ x_1.toInt ≤ 20) → rF fv_2 → fM [89] fv fv_2 → rA ar_4 → fA [24] ar ar_4 → ((fv_2 89).toInt = (fv 89).toInt + x_1.toInt) → (x_1.toInt ≤ nn.toInt) → va_P (dC, dI) vwCl (wsM h ad cA fv_2 wd ar_4) H → va_S (aM h ad s.heap.size) s.heap H locs → lv_has ls 4 [(0, .ref h), (1, .ref (ad 24)), (2, .int nn), (3, .int x_1)] → W p l e R9 s m a9 below meth c H locs 0 0 Q9 (F0 m 2 ls [])) ?_ (fun hj_10 => ?_)
  · intro n_8
    induction n_8 with
    | zero => intro x_1 fv_2 ar_4 H locs ls fu_9 i_x_1 hF_fv_2 fr_3 hA_ar_4 fa_5 q_6 q_7; exfalso; omega
    | succ n_8 ih_8 =>
      intro x_1 fv_2 ar_4 H locs ls fu_9 i_x_1 hF_fv_2 fr_3 hA_ar_4 fa_5 q_6 q_7 hP hS hl
      refine lv_iload_n hx hb dX12_putBack_2 rfl (lv_at hl 3 rfl) ?_
      refine lv_iload_n hx hb dX12_putBack_3 rfl (lv_at hl 2 rfl) ?_
      refine lv_icmp_ge (tgt := 35) hx hb dX12_putBack_4 (by decide) (fun c_11 => ?_) (fun c_11 => ?_)
      · skip
        have k_12 := Int32.le_iff_toInt_le.mp c_11
        have z_13 : 0 ≤ (fv_2 89).toInt ∧ (fv_2 89).toInt ≤ 441 := hF_fv_2 89
        exact W.vret hx hb hr (fun t ht hW => ⟨⟨(fv_2, wd, ar_4), rfl, ⟨hF_fv_2, hA_ar_4, (fM_call (fM_rf [89] _) fr_3 (by decide)), (fA_call (fA_rf [24] _) fa_5 (by decide)), (show (fv_2 89).toInt = (fv 89).toInt + nn.toInt from by omega), trivial⟩, ⟨by rw [ht]; exact hP, va_K.moved hW.alike hK⟩⟩, hS.F ht⟩) hS.2.2 dX12_putBack_35
      · skip
        have i_14 : 0 ≤ x_1.toInt ∧ x_1.toInt ≤ 19 := iv_lt1 i_x_1 h_nn (Int32.not_le.mp c_11)
        have i_15 : 1 ≤ nn.toInt ∧ nn.toInt ≤ 20 := iv_lt2 i_x_1 h_nn (Int32.not_le.mp c_11)
        have k_16 := Int32.lt_iff_toInt_lt.mp (Int32.not_le.mp c_11)
        refine lv_aload_n hx hb dX12_putBack_7 rfl (lv_at hl 1 rfl) ?_
        refine lv_iload_n hx hb dX12_putBack_8 rfl (lv_at hl 3 rfl) ?_
        refine lv_aload_n hx hb dX12_putBack_9 rfl (lv_at hl 0 rfl) ?_
        refine gM_88 hx hb htg hown hK hP dX12_putBack_10 ?_
        refine lv_aload_n hx hb dX12_putBack_13 rfl (lv_at hl 0 rfl) ?_
        refine gM_89 hx hb htg hown hK hP dX12_putBack_14 ?_
        have i_17 : 0 ≤ (fv_2 89).toInt ∧ (fv_2 89).toInt ≤ 441 := hF_fv_2 89
        refine lM_88 hx hb hK hP (vp_in_iff.mpr (by omega)) dX12_putBack_17 (fun v_18 ev_18 => ?_)
        refine sM_24 hx hb hK hP hS hd (iv_in i_14 (by decide) (by decide)) dX12_putBack_18 (fun H locs ar_19 ear_19 hP hS => ?_)
        have hA_ar_19 : rA ar_19 := rA_put hA_ar_4 ear_19 (iv_any _)
        refine lv_aload_n hx hb dX12_putBack_19 rfl (lv_at hl 0 rfl) ?_
        refine lv_dup hx hb dX12_putBack_20 rfl ?_
        refine gM_89 hx hb htg hown hK hP dX12_putBack_21 ?_
        refine lv_iconst (v := 1) hx hb dX12_putBack_24 (by decide) ?_
        refine lv_iadd hx hb dX12_putBack_25 ?_
        refine lv_topi (fun v_20 ev_20 => ?_)
        have t_21 : v_20.toInt = (fv_2 89).toInt + 1 ∧ 1 ≤ v_20.toInt ∧ v_20.toInt ≤ 442 := iv_addc ev_20 i_17 (by decide) (by decide) (by decide)
        have i_23 : 0 ≤ v_20.toInt ∧ v_20.toInt ≤ 441 := (by omega)
        refine pM_89 hx hb htg hown hK hP hS hd dX12_putBack_26 (fun H locs fv_24 efv_24 hP hS => ?_)
        have hF_fv_24 : rF fv_24 := rF_put hF_fv_2 efv_24 i_23
        obtain ⟨v_25, ev_25⟩ : ∃ z : Int32, z = x_1 + 1 := ⟨_, rfl⟩
        refine lv_iinc (v := v_25) (lv' := [(3, .int v_25), (0, .ref h), (1, .ref (ad 24)), (2, .int nn)]) hx hb dX12_putBack_29 hl (k := 3) rfl (by rw [ev_25]; rfl) (by decide) rfl (fun ls hl => ?_)
        have t_26 : v_25.toInt = x_1.toInt + 1 ∧ 1 ≤ v_25.toInt ∧ v_25.toInt ≤ 20 := iv_addc ev_25 i_14 (by decide) (by decide) (by decide)
        refine lv_goto (tgt := 2) hx hb dX12_putBack_32 (by decide) ?_
        have z_28 : (fv_24 89).toInt = v_20.toInt := congrArg Int32.toInt ((congrFun efv_24 89))
        have z_29 : 0 ≤ (fv_24 89).toInt ∧ (fv_24 89).toInt ≤ 441 := hF_fv_24 89
        exact ih_8 v_25 fv_24 ar_19 _ _ ls (by omega) (iv_w t_26.2 (by decide) (by decide)) hF_fv_24 (fM_put (fM_call (fM_rf [89] _) fr_3 (by decide)) efv_24 (by decide)) hA_ar_19 (fA_put (fA_call (fA_rf [24] _) fa_5 (by decide)) ear_19 (by decide)) (by omega) (by omega) hP hS (lv_sub hl [1, 2, 3, 0] rfl)
  · skip
    have z_30 : (0 : Int32).toInt = 0 := by decide
    have z_31 : 0 ≤ (fv 89).toInt ∧ (fv 89).toInt ≤ 441 := hF_fv 89
    exact hj_10 21 0 fv ar _ _ ls (by first | decide | omega) (iv_w (⟨by decide, by decide⟩ : (0 : Int) ≤ (0 : Int32).toInt ∧ (0 : Int32).toInt ≤ 0) (by decide) (by decide)) hF_fv (fM_rf [89] _) hA_ar (fA_rf [24] _) (by omega) (by omega) hP hS (lv_sub hl [1, 2, 3, 0] rfl)
set_option maxHeartbeats 4000000 in
set_option maxRecDepth 100000 in
theorem m_keep_76 (l : Launch) (dC : Nat → ClassId) (dI : Nat → Nat → Nat) (sz h : Nat) (ad : Nat → Nat) (cA : Nat → ClassId) (hd : dM h ad) (fv : Nat → Int32) (wd : Int64) (ar : Nat → Nat → Int32) (hF_fv : rF fv) (hA_ar : rA ar) (nn : Int32) (h_nn : 0 ≤ nn.toInt ∧ nn.toInt ≤ 20) (hk : (fv 89).toInt + nn.toInt ≤ 441) : Met l yX12_keep (.code yX12_keep cX12_keep 4 none :: lw_good) ({ frames := 2, cells := 0, slots := 0, locals := 40 }) (va_Pc [.ref h, .ref (ad 76), .int nn] (prM dC dI h ad cA fv wd ar sz)) (va_Qv (fun (u : mS) => rF u.1 ∧ rA u.2.2 ∧ fM [89] fv u.1 ∧ fA [88] ar u.2.2 ∧ ((u.1 89).toInt = (fv 89).toInt + nn.toInt) ∧ True) (enM dC dI h ad cA) (aM h ad sz)) 0 0 (aM h ad sz) := by
  refine Met.ofW (cc := cX12_keep) (maxL := 4) (ret := none) (by decide) rfl ?_
  intro p e s m args below meth c s₁ B hml hv
  obtain ⟨rfl, hsz, hP, hK⟩ := hv
  have hx := B.exec
  have hb := B.bytes
  have hr := B.returns
  have hts := atoms_spec (ws := (.code yX12_keep cX12_keep 4 none :: lw_good)) B.pre
  have htg : ∀ w ∈ lw_good, w.before _ s = true := fun w hw => hts w (List.mem_cons_of_mem _ hw)
  have hown : s.vm.findClass RX12 = some m.cls := findClass_of_methodNamed B.named
  have hlocks := B.notSynchronized
  subst hsz
  have hS : va_S (aM h ad s.heap.size) s.heap s.heap [] := va_S.rf
  have hl := lv_entry ([.ref h, .ref (ad 76), .int nn]) (n := 4) (Nat.le_of_ble_eq_true rfl)
  rw [lg_entry_eq]
  generalize (lg_sl ([.ref h, .ref (ad 76), .int nn]) ++ List.replicate (4 - (lg_sl ([.ref h, .ref (ad 76), .int nn])).length) Slot.unset).toArray = ls at hl ⊢
  have hl : lv_has ls 4 [(0, .ref h), (1, .ref (ad 76)), (2, .int nn)] := hl
  refine lv_iconst (v := 0) hx hb dX12_keep_0 (by decide) ?_
  refine lv_istore_n (lv' := [(3, .int 0), (0, .ref h), (1, .ref (ad 76)), (2, .int nn)]) hx hb dX12_keep_1 rfl hl (by decide) rfl (fun ls hl => ?_)
  refine my_cut (P := fun R9 a9 Q9 => ∀ (n_8 : Nat) (x_1 : Int32) (fv_2 : Nat → Int32) (ar_4 : Nat → Nat → Int32) (H : Heap) (locs : List Loc) (ls : Array Slot), 20 - x_1.toInt < (n_8 : Int) → (0 ≤ x_1.toInt ∧ x_1.toInt ≤ 20) → rF fv_2 → fM [89] fv fv_2 → rA ar_4 → fA [88] ar ar_4 → ((fv_2 89).toInt = (fv 89).toInt + x_1.toInt) → (x_1.toInt ≤ nn.toInt) → va_P (dC, dI) vwCl (wsM h ad cA fv_2 wd ar_4) H → va_S (aM h ad s.heap.size) s.heap H locs → lv_has ls 4 [(0, .ref h), (1, .ref (ad 76)), (2, .int nn), (3, .int x_1)] → W p l e R9 s m a9 below meth c H locs 0 0 Q9 (F0 m 2 ls [])) ?_ (fun hj_10 => ?_)
  · intro n_8
    induction n_8 with
    | zero => intro x_1 fv_2 ar_4 H locs ls fu_9 i_x_1 hF_fv_2 fr_3 hA_ar_4 fa_5 q_6 q_7; exfalso; omega
    | succ n_8 ih_8 =>
      intro x_1 fv_2 ar_4 H locs ls fu_9 i_x_1 hF_fv_2 fr_3 hA_ar_4 fa_5 q_6 q_7 hP hS hl
      refine lv_iload_n hx hb dX12_keep_2 rfl (lv_at hl 3 rfl) ?_
      refine lv_iload_n hx hb dX12_keep_3 rfl (lv_at hl 2 rfl) ?_
      refine lv_icmp_ge (tgt := 35) hx hb dX12_keep_4 (by decide) (fun c_11 => ?_) (fun c_11 => ?_)
      · skip
        have k_12 := Int32.le_iff_toInt_le.mp c_11
        have z_13 : 0 ≤ (fv_2 89).toInt ∧ (fv_2 89).toInt ≤ 441 := hF_fv_2 89
        exact W.vret hx hb hr (fun t ht hW => ⟨⟨(fv_2, wd, ar_4), rfl, ⟨hF_fv_2, hA_ar_4, (fM_call (fM_rf [89] _) fr_3 (by decide)), (fA_call (fA_rf [88] _) fa_5 (by decide)), (show (fv_2 89).toInt = (fv 89).toInt + nn.toInt from by omega), trivial⟩, ⟨by rw [ht]; exact hP, va_K.moved hW.alike hK⟩⟩, hS.F ht⟩) hS.2.2 dX12_keep_35
      · skip
        have i_14 : 0 ≤ x_1.toInt ∧ x_1.toInt ≤ 19 := iv_lt1 i_x_1 h_nn (Int32.not_le.mp c_11)
        have i_15 : 1 ≤ nn.toInt ∧ nn.toInt ≤ 20 := iv_lt2 i_x_1 h_nn (Int32.not_le.mp c_11)
        have k_16 := Int32.lt_iff_toInt_lt.mp (Int32.not_le.mp c_11)
        refine lv_aload_n hx hb dX12_keep_7 rfl (lv_at hl 0 rfl) ?_
        refine gM_88 hx hb htg hown hK hP dX12_keep_8 ?_
        refine lv_aload_n hx hb dX12_keep_11 rfl (lv_at hl 0 rfl) ?_
        refine gM_89 hx hb htg hown hK hP dX12_keep_12 ?_
        have i_17 : 0 ≤ (fv_2 89).toInt ∧ (fv_2 89).toInt ≤ 441 := hF_fv_2 89
        refine lv_aload_n hx hb dX12_keep_15 rfl (lv_at hl 1 rfl) ?_
        refine lv_iload_n hx hb dX12_keep_16 rfl (lv_at hl 3 rfl) ?_
        refine lM_76 hx hb hK hP (iv_in i_14 (by decide) (by decide)) dX12_keep_17 (fun v_18 ev_18 => ?_)
        refine sM_88 hx hb hK hP hS hd (vp_in_iff.mpr (by omega)) dX12_keep_18 (fun H locs ar_19 ear_19 hP hS => ?_)
        have hA_ar_19 : rA ar_19 := rA_put hA_ar_4 ear_19 (iv_any _)
        refine lv_aload_n hx hb dX12_keep_19 rfl (lv_at hl 0 rfl) ?_
        refine lv_dup hx hb dX12_keep_20 rfl ?_
        refine gM_89 hx hb htg hown hK hP dX12_keep_21 ?_
        refine lv_iconst (v := 1) hx hb dX12_keep_24 (by decide) ?_
        refine lv_iadd hx hb dX12_keep_25 ?_
        refine lv_topi (fun v_20 ev_20 => ?_)
        have t_21 : v_20.toInt = (fv_2 89).toInt + 1 ∧ 1 ≤ v_20.toInt ∧ v_20.toInt ≤ 442 := iv_addc ev_20 i_17 (by decide) (by decide) (by decide)
        have i_23 : 0 ≤ v_20.toInt ∧ v_20.toInt ≤ 441 := (by omega)
        refine pM_89 hx hb htg hown hK hP hS hd dX12_keep_26 (fun H locs fv_24 efv_24 hP hS => ?_)
        have hF_fv_24 : rF fv_24 := rF_put hF_fv_2 efv_24 i_23
        obtain ⟨v_25, ev_25⟩ : ∃ z : Int32, z = x_1 + 1 := ⟨_, rfl⟩
        refine lv_iinc (v := v_25) (lv' := [(3, .int v_25), (0, .ref h), (1, .ref (ad 76)), (2, .int nn)]) hx hb dX12_keep_29 hl (k := 3) rfl (by rw [ev_25]; rfl) (by decide) rfl (fun ls hl => ?_)
        have t_26 : v_25.toInt = x_1.toInt + 1 ∧ 1 ≤ v_25.toInt ∧ v_25.toInt ≤ 20 := iv_addc ev_25 i_14 (by decide) (by decide) (by decide)
        refine lv_goto (tgt := 2) hx hb dX12_keep_32 (by decide) ?_
        have z_28 : (fv_24 89).toInt = v_20.toInt := congrArg Int32.toInt ((congrFun efv_24 89))
        have z_29 : 0 ≤ (fv_24 89).toInt ∧ (fv_24 89).toInt ≤ 441 := hF_fv_24 89
        exact ih_8 v_25 fv_24 ar_19 _ _ ls (by omega) (iv_w t_26.2 (by decide) (by decide)) hF_fv_24 (fM_put (fM_call (fM_rf [89] _) fr_3 (by decide)) efv_24 (by decide)) hA_ar_19 (fA_put (fA_call (fA_rf [88] _) fa_5 (by decide)) ear_19 (by decide)) (by omega) (by omega) hP hS (lv_sub hl [1, 2, 3, 0] rfl)
  · skip
    have z_30 : (0 : Int32).toInt = 0 := by decide
    have z_31 : 0 ≤ (fv 89).toInt ∧ (fv 89).toInt ≤ 441 := hF_fv 89
    exact hj_10 21 0 fv ar _ _ ls (by first | decide | omega) (iv_w (⟨by decide, by decide⟩ : (0 : Int) ≤ (0 : Int32).toInt ∧ (0 : Int32).toInt ≤ 0) (by decide) (by decide)) hF_fv (fM_rf [89] _) hA_ar (fA_rf [88] _) (by omega) (by omega) hP hS (lv_sub hl [1, 2, 3, 0] rfl)
set_option maxHeartbeats 4000000 in
set_option maxRecDepth 100000 in
theorem m_putBack_76 (l : Launch) (dC : Nat → ClassId) (dI : Nat → Nat → Nat) (sz h : Nat) (ad : Nat → Nat) (cA : Nat → ClassId) (hd : dM h ad) (fv : Nat → Int32) (wd : Int64) (ar : Nat → Nat → Int32) (hF_fv : rF fv) (hA_ar : rA ar) (nn : Int32) (h_nn : 0 ≤ nn.toInt ∧ nn.toInt ≤ 20) (hk : (fv 89).toInt + nn.toInt ≤ 441) : Met l yX12_putBack (.code yX12_putBack cX12_putBack 4 none :: lw_good) ({ frames := 2, cells := 0, slots := 0, locals := 40 }) (va_Pc [.ref h, .ref (ad 76), .int nn] (prM dC dI h ad cA fv wd ar sz)) (va_Qv (fun (u : mS) => rF u.1 ∧ rA u.2.2 ∧ fM [89] fv u.1 ∧ fA [76] ar u.2.2 ∧ ((u.1 89).toInt = (fv 89).toInt + nn.toInt) ∧ True) (enM dC dI h ad cA) (aM h ad sz)) 0 0 (aM h ad sz) := by
  refine Met.ofW (cc := cX12_putBack) (maxL := 4) (ret := none) (by decide) rfl ?_
  intro p e s m args below meth c s₁ B hml hv
  obtain ⟨rfl, hsz, hP, hK⟩ := hv
  have hx := B.exec
  have hb := B.bytes
  have hr := B.returns
  have hts := atoms_spec (ws := (.code yX12_putBack cX12_putBack 4 none :: lw_good)) B.pre
  have htg : ∀ w ∈ lw_good, w.before _ s = true := fun w hw => hts w (List.mem_cons_of_mem _ hw)
  have hown : s.vm.findClass RX12 = some m.cls := findClass_of_methodNamed B.named
  have hlocks := B.notSynchronized
  subst hsz
  have hS : va_S (aM h ad s.heap.size) s.heap s.heap [] := va_S.rf
  have hl := lv_entry ([.ref h, .ref (ad 76), .int nn]) (n := 4) (Nat.le_of_ble_eq_true rfl)
  rw [lg_entry_eq]
  generalize (lg_sl ([.ref h, .ref (ad 76), .int nn]) ++ List.replicate (4 - (lg_sl ([.ref h, .ref (ad 76), .int nn])).length) Slot.unset).toArray = ls at hl ⊢
  have hl : lv_has ls 4 [(0, .ref h), (1, .ref (ad 76)), (2, .int nn)] := hl
  refine lv_iconst (v := 0) hx hb dX12_putBack_0 (by decide) ?_
  refine lv_istore_n (lv' := [(3, .int 0), (0, .ref h), (1, .ref (ad 76)), (2, .int nn)]) hx hb dX12_putBack_1 rfl hl (by decide) rfl (fun ls hl => ?_)
  refine my_cut (P := fun R9 a9 Q9 => ∀ (n_8 : Nat) (x_1 : Int32) (fv_2 : Nat → Int32) (ar_4 : Nat → Nat → Int32) (H : Heap) (locs : List Loc) (ls : Array Slot), 20 - x_1.toInt < (n_8 : Int) → (0 ≤ x_1.toInt ∧ x_1.toInt ≤ 20) → rF fv_2 → fM [89] fv fv_2 → rA ar_4 → fA [76] ar ar_4 → ((fv_2 89).toInt = (fv 89).toInt + x_1.toInt) → (x_1.toInt ≤ nn.toInt) → va_P (dC, dI) vwCl (wsM h ad cA fv_2 wd ar_4) H → va_S (aM h ad s.heap.size) s.heap H locs → lv_has ls 4 [(0, .ref h), (1, .ref (ad 76)), (2, .int nn), (3, .int x_1)] → W p l e R9 s m a9 below meth c H locs 0 0 Q9 (F0 m 2 ls [])) ?_ (fun hj_10 => ?_)
  · intro n_8
    induction n_8 with
    | zero => intro x_1 fv_2 ar_4 H locs ls fu_9 i_x_1 hF_fv_2 fr_3 hA_ar_4 fa_5 q_6 q_7; exfalso; omega
    | succ n_8 ih_8 =>
      intro x_1 fv_2 ar_4 H locs ls fu_9 i_x_1 hF_fv_2 fr_3 hA_ar_4 fa_5 q_6 q_7 hP hS hl
      refine lv_iload_n hx hb dX12_putBack_2 rfl (lv_at hl 3 rfl) ?_
      refine lv_iload_n hx hb dX12_putBack_3 rfl (lv_at hl 2 rfl) ?_
      refine lv_icmp_ge (tgt := 35) hx hb dX12_putBack_4 (by decide) (fun c_11 => ?_) (fun c_11 => ?_)
      · skip
        have k_12 := Int32.le_iff_toInt_le.mp c_11
        have z_13 : 0 ≤ (fv_2 89).toInt ∧ (fv_2 89).toInt ≤ 441 := hF_fv_2 89
        exact W.vret hx hb hr (fun t ht hW => ⟨⟨(fv_2, wd, ar_4), rfl, ⟨hF_fv_2, hA_ar_4, (fM_call (fM_rf [89] _) fr_3 (by decide)), (fA_call (fA_rf [76] _) fa_5 (by decide)), (show (fv_2 89).toInt = (fv 89).toInt + nn.toInt from by omega), trivial⟩, ⟨by rw [ht]; exact hP, va_K.moved hW.alike hK⟩⟩, hS.F ht⟩) hS.2.2 dX12_putBack_35
      · skip
        have i_14 : 0 ≤ x_1.toInt ∧ x_1.toInt ≤ 19 := iv_lt1 i_x_1 h_nn (Int32.not_le.mp c_11)
        have i_15 : 1 ≤ nn.toInt ∧ nn.toInt ≤ 20 := iv_lt2 i_x_1 h_nn (Int32.not_le.mp c_11)
        have k_16 := Int32.lt_iff_toInt_lt.mp (Int32.not_le.mp c_11)
        refine lv_aload_n hx hb dX12_putBack_7 rfl (lv_at hl 1 rfl) ?_
        refine lv_iload_n hx hb dX12_putBack_8 rfl (lv_at hl 3 rfl) ?_
        refine lv_aload_n hx hb dX12_putBack_9 rfl (lv_at hl 0 rfl) ?_
        refine gM_88 hx hb htg hown hK hP dX12_putBack_10 ?_
        refine lv_aload_n hx hb dX12_putBack_13 rfl (lv_at hl 0 rfl) ?_
        refine gM_89 hx hb htg hown hK hP dX12_putBack_14 ?_
        have i_17 : 0 ≤ (fv_2 89).toInt ∧ (fv_2 89).toInt ≤ 441 := hF_fv_2 89
        refine lM_88 hx hb hK hP (vp_in_iff.mpr (by omega)) dX12_putBack_17 (fun v_18 ev_18 => ?_)
        refine sM_76 hx hb hK hP hS hd (iv_in i_14 (by decide) (by decide)) dX12_putBack_18 (fun H locs ar_19 ear_19 hP hS => ?_)
        have hA_ar_19 : rA ar_19 := rA_put hA_ar_4 ear_19 (iv_any _)
        refine lv_aload_n hx hb dX12_putBack_19 rfl (lv_at hl 0 rfl) ?_
        refine lv_dup hx hb dX12_putBack_20 rfl ?_
        refine gM_89 hx hb htg hown hK hP dX12_putBack_21 ?_
        refine lv_iconst (v := 1) hx hb dX12_putBack_24 (by decide) ?_
        refine lv_iadd hx hb dX12_putBack_25 ?_
        refine lv_topi (fun v_20 ev_20 => ?_)
        have t_21 : v_20.toInt = (fv_2 89).toInt + 1 ∧ 1 ≤ v_20.toInt ∧ v_20.toInt ≤ 442 := iv_addc ev_20 i_17 (by decide) (by decide) (by decide)
        have i_23 : 0 ≤ v_20.toInt ∧ v_20.toInt ≤ 441 := (by omega)
        refine pM_89 hx hb htg hown hK hP hS hd dX12_putBack_26 (fun H locs fv_24 efv_24 hP hS => ?_)
        have hF_fv_24 : rF fv_24 := rF_put hF_fv_2 efv_24 i_23
        obtain ⟨v_25, ev_25⟩ : ∃ z : Int32, z = x_1 + 1 := ⟨_, rfl⟩
        refine lv_iinc (v := v_25) (lv' := [(3, .int v_25), (0, .ref h), (1, .ref (ad 76)), (2, .int nn)]) hx hb dX12_putBack_29 hl (k := 3) rfl (by rw [ev_25]; rfl) (by decide) rfl (fun ls hl => ?_)
        have t_26 : v_25.toInt = x_1.toInt + 1 ∧ 1 ≤ v_25.toInt ∧ v_25.toInt ≤ 20 := iv_addc ev_25 i_14 (by decide) (by decide) (by decide)
        refine lv_goto (tgt := 2) hx hb dX12_putBack_32 (by decide) ?_
        have z_28 : (fv_24 89).toInt = v_20.toInt := congrArg Int32.toInt ((congrFun efv_24 89))
        have z_29 : 0 ≤ (fv_24 89).toInt ∧ (fv_24 89).toInt ≤ 441 := hF_fv_24 89
        exact ih_8 v_25 fv_24 ar_19 _ _ ls (by omega) (iv_w t_26.2 (by decide) (by decide)) hF_fv_24 (fM_put (fM_call (fM_rf [89] _) fr_3 (by decide)) efv_24 (by decide)) hA_ar_19 (fA_put (fA_call (fA_rf [76] _) fa_5 (by decide)) ear_19 (by decide)) (by omega) (by omega) hP hS (lv_sub hl [1, 2, 3, 0] rfl)
  · skip
    have z_30 : (0 : Int32).toInt = 0 := by decide
    have z_31 : 0 ≤ (fv 89).toInt ∧ (fv 89).toInt ≤ 441 := hF_fv 89
    exact hj_10 21 0 fv ar _ _ ls (by first | decide | omega) (iv_w (⟨by decide, by decide⟩ : (0 : Int) ≤ (0 : Int32).toInt ∧ (0 : Int32).toInt ≤ 0) (by decide) (by decide)) hF_fv (fM_rf [89] _) hA_ar (fA_rf [76] _) (by omega) (by omega) hP hS (lv_sub hl [1, 2, 3, 0] rfl)
set_option maxHeartbeats 4000000 in
set_option maxRecDepth 100000 in
theorem m_keep_78 (l : Launch) (dC : Nat → ClassId) (dI : Nat → Nat → Nat) (sz h : Nat) (ad : Nat → Nat) (cA : Nat → ClassId) (hd : dM h ad) (fv : Nat → Int32) (wd : Int64) (ar : Nat → Nat → Int32) (hF_fv : rF fv) (hA_ar : rA ar) (nn : Int32) (h_nn : 0 ≤ nn.toInt ∧ nn.toInt ≤ 20) (hk : (fv 89).toInt + nn.toInt ≤ 441) : Met l yX12_keep (.code yX12_keep cX12_keep 4 none :: lw_good) ({ frames := 2, cells := 0, slots := 0, locals := 40 }) (va_Pc [.ref h, .ref (ad 78), .int nn] (prM dC dI h ad cA fv wd ar sz)) (va_Qv (fun (u : mS) => rF u.1 ∧ rA u.2.2 ∧ fM [89] fv u.1 ∧ fA [88] ar u.2.2 ∧ ((u.1 89).toInt = (fv 89).toInt + nn.toInt) ∧ True) (enM dC dI h ad cA) (aM h ad sz)) 0 0 (aM h ad sz) := by
  refine Met.ofW (cc := cX12_keep) (maxL := 4) (ret := none) (by decide) rfl ?_
  intro p e s m args below meth c s₁ B hml hv
  obtain ⟨rfl, hsz, hP, hK⟩ := hv
  have hx := B.exec
  have hb := B.bytes
  have hr := B.returns
  have hts := atoms_spec (ws := (.code yX12_keep cX12_keep 4 none :: lw_good)) B.pre
  have htg : ∀ w ∈ lw_good, w.before _ s = true := fun w hw => hts w (List.mem_cons_of_mem _ hw)
  have hown : s.vm.findClass RX12 = some m.cls := findClass_of_methodNamed B.named
  have hlocks := B.notSynchronized
  subst hsz
  have hS : va_S (aM h ad s.heap.size) s.heap s.heap [] := va_S.rf
  have hl := lv_entry ([.ref h, .ref (ad 78), .int nn]) (n := 4) (Nat.le_of_ble_eq_true rfl)
  rw [lg_entry_eq]
  generalize (lg_sl ([.ref h, .ref (ad 78), .int nn]) ++ List.replicate (4 - (lg_sl ([.ref h, .ref (ad 78), .int nn])).length) Slot.unset).toArray = ls at hl ⊢
  have hl : lv_has ls 4 [(0, .ref h), (1, .ref (ad 78)), (2, .int nn)] := hl
  refine lv_iconst (v := 0) hx hb dX12_keep_0 (by decide) ?_
  refine lv_istore_n (lv' := [(3, .int 0), (0, .ref h), (1, .ref (ad 78)), (2, .int nn)]) hx hb dX12_keep_1 rfl hl (by decide) rfl (fun ls hl => ?_)
  refine my_cut (P := fun R9 a9 Q9 => ∀ (n_8 : Nat) (x_1 : Int32) (fv_2 : Nat → Int32) (ar_4 : Nat → Nat → Int32) (H : Heap) (locs : List Loc) (ls : Array Slot), 20 - x_1.toInt < (n_8 : Int) → (0 ≤ x_1.toInt ∧ x_1.toInt ≤ 20) → rF fv_2 → fM [89] fv fv_2 → rA ar_4 → fA [88] ar ar_4 → ((fv_2 89).toInt = (fv 89).toInt + x_1.toInt) → (x_1.toInt ≤ nn.toInt) → va_P (dC, dI) vwCl (wsM h ad cA fv_2 wd ar_4) H → va_S (aM h ad s.heap.size) s.heap H locs → lv_has ls 4 [(0, .ref h), (1, .ref (ad 78)), (2, .int nn), (3, .int x_1)] → W p l e R9 s m a9 below meth c H locs 0 0 Q9 (F0 m 2 ls [])) ?_ (fun hj_10 => ?_)
  · intro n_8
    induction n_8 with
    | zero => intro x_1 fv_2 ar_4 H locs ls fu_9 i_x_1 hF_fv_2 fr_3 hA_ar_4 fa_5 q_6 q_7; exfalso; omega
    | succ n_8 ih_8 =>
      intro x_1 fv_2 ar_4 H locs ls fu_9 i_x_1 hF_fv_2 fr_3 hA_ar_4 fa_5 q_6 q_7 hP hS hl
      refine lv_iload_n hx hb dX12_keep_2 rfl (lv_at hl 3 rfl) ?_
      refine lv_iload_n hx hb dX12_keep_3 rfl (lv_at hl 2 rfl) ?_
      refine lv_icmp_ge (tgt := 35) hx hb dX12_keep_4 (by decide) (fun c_11 => ?_) (fun c_11 => ?_)
      · skip
        have k_12 := Int32.le_iff_toInt_le.mp c_11
        have z_13 : 0 ≤ (fv_2 89).toInt ∧ (fv_2 89).toInt ≤ 441 := hF_fv_2 89
        exact W.vret hx hb hr (fun t ht hW => ⟨⟨(fv_2, wd, ar_4), rfl, ⟨hF_fv_2, hA_ar_4, (fM_call (fM_rf [89] _) fr_3 (by decide)), (fA_call (fA_rf [88] _) fa_5 (by decide)), (show (fv_2 89).toInt = (fv 89).toInt + nn.toInt from by omega), trivial⟩, ⟨by rw [ht]; exact hP, va_K.moved hW.alike hK⟩⟩, hS.F ht⟩) hS.2.2 dX12_keep_35
      · skip
        have i_14 : 0 ≤ x_1.toInt ∧ x_1.toInt ≤ 19 := iv_lt1 i_x_1 h_nn (Int32.not_le.mp c_11)
        have i_15 : 1 ≤ nn.toInt ∧ nn.toInt ≤ 20 := iv_lt2 i_x_1 h_nn (Int32.not_le.mp c_11)
        have k_16 := Int32.lt_iff_toInt_lt.mp (Int32.not_le.mp c_11)
        refine lv_aload_n hx hb dX12_keep_7 rfl (lv_at hl 0 rfl) ?_
        refine gM_88 hx hb htg hown hK hP dX12_keep_8 ?_
        refine lv_aload_n hx hb dX12_keep_11 rfl (lv_at hl 0 rfl) ?_
        refine gM_89 hx hb htg hown hK hP dX12_keep_12 ?_
        have i_17 : 0 ≤ (fv_2 89).toInt ∧ (fv_2 89).toInt ≤ 441 := hF_fv_2 89
        refine lv_aload_n hx hb dX12_keep_15 rfl (lv_at hl 1 rfl) ?_
        refine lv_iload_n hx hb dX12_keep_16 rfl (lv_at hl 3 rfl) ?_
        refine lM_78 hx hb hK hP (iv_in i_14 (by decide) (by decide)) dX12_keep_17 (fun v_18 ev_18 => ?_)
        refine sM_88 hx hb hK hP hS hd (vp_in_iff.mpr (by omega)) dX12_keep_18 (fun H locs ar_19 ear_19 hP hS => ?_)
        have hA_ar_19 : rA ar_19 := rA_put hA_ar_4 ear_19 (iv_any _)
        refine lv_aload_n hx hb dX12_keep_19 rfl (lv_at hl 0 rfl) ?_
        refine lv_dup hx hb dX12_keep_20 rfl ?_
        refine gM_89 hx hb htg hown hK hP dX12_keep_21 ?_
        refine lv_iconst (v := 1) hx hb dX12_keep_24 (by decide) ?_
        refine lv_iadd hx hb dX12_keep_25 ?_
        refine lv_topi (fun v_20 ev_20 => ?_)
        have t_21 : v_20.toInt = (fv_2 89).toInt + 1 ∧ 1 ≤ v_20.toInt ∧ v_20.toInt ≤ 442 := iv_addc ev_20 i_17 (by decide) (by decide) (by decide)
        have i_23 : 0 ≤ v_20.toInt ∧ v_20.toInt ≤ 441 := (by omega)
        refine pM_89 hx hb htg hown hK hP hS hd dX12_keep_26 (fun H locs fv_24 efv_24 hP hS => ?_)
        have hF_fv_24 : rF fv_24 := rF_put hF_fv_2 efv_24 i_23
        obtain ⟨v_25, ev_25⟩ : ∃ z : Int32, z = x_1 + 1 := ⟨_, rfl⟩
        refine lv_iinc (v := v_25) (lv' := [(3, .int v_25), (0, .ref h), (1, .ref (ad 78)), (2, .int nn)]) hx hb dX12_keep_29 hl (k := 3) rfl (by rw [ev_25]; rfl) (by decide) rfl (fun ls hl => ?_)
        have t_26 : v_25.toInt = x_1.toInt + 1 ∧ 1 ≤ v_25.toInt ∧ v_25.toInt ≤ 20 := iv_addc ev_25 i_14 (by decide) (by decide) (by decide)
        refine lv_goto (tgt := 2) hx hb dX12_keep_32 (by decide) ?_
        have z_28 : (fv_24 89).toInt = v_20.toInt := congrArg Int32.toInt ((congrFun efv_24 89))
        have z_29 : 0 ≤ (fv_24 89).toInt ∧ (fv_24 89).toInt ≤ 441 := hF_fv_24 89
        exact ih_8 v_25 fv_24 ar_19 _ _ ls (by omega) (iv_w t_26.2 (by decide) (by decide)) hF_fv_24 (fM_put (fM_call (fM_rf [89] _) fr_3 (by decide)) efv_24 (by decide)) hA_ar_19 (fA_put (fA_call (fA_rf [88] _) fa_5 (by decide)) ear_19 (by decide)) (by omega) (by omega) hP hS (lv_sub hl [1, 2, 3, 0] rfl)
  · skip
    have z_30 : (0 : Int32).toInt = 0 := by decide
    have z_31 : 0 ≤ (fv 89).toInt ∧ (fv 89).toInt ≤ 441 := hF_fv 89
    exact hj_10 21 0 fv ar _ _ ls (by first | decide | omega) (iv_w (⟨by decide, by decide⟩ : (0 : Int) ≤ (0 : Int32).toInt ∧ (0 : Int32).toInt ≤ 0) (by decide) (by decide)) hF_fv (fM_rf [89] _) hA_ar (fA_rf [88] _) (by omega) (by omega) hP hS (lv_sub hl [1, 2, 3, 0] rfl)
set_option maxHeartbeats 4000000 in
set_option maxRecDepth 100000 in
theorem m_putBack_78 (l : Launch) (dC : Nat → ClassId) (dI : Nat → Nat → Nat) (sz h : Nat) (ad : Nat → Nat) (cA : Nat → ClassId) (hd : dM h ad) (fv : Nat → Int32) (wd : Int64) (ar : Nat → Nat → Int32) (hF_fv : rF fv) (hA_ar : rA ar) (nn : Int32) (h_nn : 0 ≤ nn.toInt ∧ nn.toInt ≤ 20) (hk : (fv 89).toInt + nn.toInt ≤ 441) : Met l yX12_putBack (.code yX12_putBack cX12_putBack 4 none :: lw_good) ({ frames := 2, cells := 0, slots := 0, locals := 40 }) (va_Pc [.ref h, .ref (ad 78), .int nn] (prM dC dI h ad cA fv wd ar sz)) (va_Qv (fun (u : mS) => rF u.1 ∧ rA u.2.2 ∧ fM [89] fv u.1 ∧ fA [78] ar u.2.2 ∧ ((u.1 89).toInt = (fv 89).toInt + nn.toInt) ∧ True) (enM dC dI h ad cA) (aM h ad sz)) 0 0 (aM h ad sz) := by
  refine Met.ofW (cc := cX12_putBack) (maxL := 4) (ret := none) (by decide) rfl ?_
  intro p e s m args below meth c s₁ B hml hv
  obtain ⟨rfl, hsz, hP, hK⟩ := hv
  have hx := B.exec
  have hb := B.bytes
  have hr := B.returns
  have hts := atoms_spec (ws := (.code yX12_putBack cX12_putBack 4 none :: lw_good)) B.pre
  have htg : ∀ w ∈ lw_good, w.before _ s = true := fun w hw => hts w (List.mem_cons_of_mem _ hw)
  have hown : s.vm.findClass RX12 = some m.cls := findClass_of_methodNamed B.named
  have hlocks := B.notSynchronized
  subst hsz
  have hS : va_S (aM h ad s.heap.size) s.heap s.heap [] := va_S.rf
  have hl := lv_entry ([.ref h, .ref (ad 78), .int nn]) (n := 4) (Nat.le_of_ble_eq_true rfl)
  rw [lg_entry_eq]
  generalize (lg_sl ([.ref h, .ref (ad 78), .int nn]) ++ List.replicate (4 - (lg_sl ([.ref h, .ref (ad 78), .int nn])).length) Slot.unset).toArray = ls at hl ⊢
  have hl : lv_has ls 4 [(0, .ref h), (1, .ref (ad 78)), (2, .int nn)] := hl
  refine lv_iconst (v := 0) hx hb dX12_putBack_0 (by decide) ?_
  refine lv_istore_n (lv' := [(3, .int 0), (0, .ref h), (1, .ref (ad 78)), (2, .int nn)]) hx hb dX12_putBack_1 rfl hl (by decide) rfl (fun ls hl => ?_)
  refine my_cut (P := fun R9 a9 Q9 => ∀ (n_8 : Nat) (x_1 : Int32) (fv_2 : Nat → Int32) (ar_4 : Nat → Nat → Int32) (H : Heap) (locs : List Loc) (ls : Array Slot), 20 - x_1.toInt < (n_8 : Int) → (0 ≤ x_1.toInt ∧ x_1.toInt ≤ 20) → rF fv_2 → fM [89] fv fv_2 → rA ar_4 → fA [78] ar ar_4 → ((fv_2 89).toInt = (fv 89).toInt + x_1.toInt) → (x_1.toInt ≤ nn.toInt) → va_P (dC, dI) vwCl (wsM h ad cA fv_2 wd ar_4) H → va_S (aM h ad s.heap.size) s.heap H locs → lv_has ls 4 [(0, .ref h), (1, .ref (ad 78)), (2, .int nn), (3, .int x_1)] → W p l e R9 s m a9 below meth c H locs 0 0 Q9 (F0 m 2 ls [])) ?_ (fun hj_10 => ?_)
  · intro n_8
    induction n_8 with
    | zero => intro x_1 fv_2 ar_4 H locs ls fu_9 i_x_1 hF_fv_2 fr_3 hA_ar_4 fa_5 q_6 q_7; exfalso; omega
    | succ n_8 ih_8 =>
      intro x_1 fv_2 ar_4 H locs ls fu_9 i_x_1 hF_fv_2 fr_3 hA_ar_4 fa_5 q_6 q_7 hP hS hl
      refine lv_iload_n hx hb dX12_putBack_2 rfl (lv_at hl 3 rfl) ?_
      refine lv_iload_n hx hb dX12_putBack_3 rfl (lv_at hl 2 rfl) ?_
      refine lv_icmp_ge (tgt := 35) hx hb dX12_putBack_4 (by decide) (fun c_11 => ?_) (fun c_11 => ?_)
      · skip
        have k_12 := Int32.le_iff_toInt_le.mp c_11
        have z_13 : 0 ≤ (fv_2 89).toInt ∧ (fv_2 89).toInt ≤ 441 := hF_fv_2 89
        exact W.vret hx hb hr (fun t ht hW => ⟨⟨(fv_2, wd, ar_4), rfl, ⟨hF_fv_2, hA_ar_4, (fM_call (fM_rf [89] _) fr_3 (by decide)), (fA_call (fA_rf [78] _) fa_5 (by decide)), (show (fv_2 89).toInt = (fv 89).toInt + nn.toInt from by omega), trivial⟩, ⟨by rw [ht]; exact hP, va_K.moved hW.alike hK⟩⟩, hS.F ht⟩) hS.2.2 dX12_putBack_35
      · skip
        have i_14 : 0 ≤ x_1.toInt ∧ x_1.toInt ≤ 19 := iv_lt1 i_x_1 h_nn (Int32.not_le.mp c_11)
        have i_15 : 1 ≤ nn.toInt ∧ nn.toInt ≤ 20 := iv_lt2 i_x_1 h_nn (Int32.not_le.mp c_11)
        have k_16 := Int32.lt_iff_toInt_lt.mp (Int32.not_le.mp c_11)
        refine lv_aload_n hx hb dX12_putBack_7 rfl (lv_at hl 1 rfl) ?_
        refine lv_iload_n hx hb dX12_putBack_8 rfl (lv_at hl 3 rfl) ?_
        refine lv_aload_n hx hb dX12_putBack_9 rfl (lv_at hl 0 rfl) ?_
        refine gM_88 hx hb htg hown hK hP dX12_putBack_10 ?_
        refine lv_aload_n hx hb dX12_putBack_13 rfl (lv_at hl 0 rfl) ?_
        refine gM_89 hx hb htg hown hK hP dX12_putBack_14 ?_
        have i_17 : 0 ≤ (fv_2 89).toInt ∧ (fv_2 89).toInt ≤ 441 := hF_fv_2 89
        refine lM_88 hx hb hK hP (vp_in_iff.mpr (by omega)) dX12_putBack_17 (fun v_18 ev_18 => ?_)
        refine sM_78 hx hb hK hP hS hd (iv_in i_14 (by decide) (by decide)) dX12_putBack_18 (fun H locs ar_19 ear_19 hP hS => ?_)
        have hA_ar_19 : rA ar_19 := rA_put hA_ar_4 ear_19 (iv_any _)
        refine lv_aload_n hx hb dX12_putBack_19 rfl (lv_at hl 0 rfl) ?_
        refine lv_dup hx hb dX12_putBack_20 rfl ?_
        refine gM_89 hx hb htg hown hK hP dX12_putBack_21 ?_
        refine lv_iconst (v := 1) hx hb dX12_putBack_24 (by decide) ?_
        refine lv_iadd hx hb dX12_putBack_25 ?_
        refine lv_topi (fun v_20 ev_20 => ?_)
        have t_21 : v_20.toInt = (fv_2 89).toInt + 1 ∧ 1 ≤ v_20.toInt ∧ v_20.toInt ≤ 442 := iv_addc ev_20 i_17 (by decide) (by decide) (by decide)
        have i_23 : 0 ≤ v_20.toInt ∧ v_20.toInt ≤ 441 := (by omega)
        refine pM_89 hx hb htg hown hK hP hS hd dX12_putBack_26 (fun H locs fv_24 efv_24 hP hS => ?_)
        have hF_fv_24 : rF fv_24 := rF_put hF_fv_2 efv_24 i_23
        obtain ⟨v_25, ev_25⟩ : ∃ z : Int32, z = x_1 + 1 := ⟨_, rfl⟩
        refine lv_iinc (v := v_25) (lv' := [(3, .int v_25), (0, .ref h), (1, .ref (ad 78)), (2, .int nn)]) hx hb dX12_putBack_29 hl (k := 3) rfl (by rw [ev_25]; rfl) (by decide) rfl (fun ls hl => ?_)
        have t_26 : v_25.toInt = x_1.toInt + 1 ∧ 1 ≤ v_25.toInt ∧ v_25.toInt ≤ 20 := iv_addc ev_25 i_14 (by decide) (by decide) (by decide)
        refine lv_goto (tgt := 2) hx hb dX12_putBack_32 (by decide) ?_
        have z_28 : (fv_24 89).toInt = v_20.toInt := congrArg Int32.toInt ((congrFun efv_24 89))
        have z_29 : 0 ≤ (fv_24 89).toInt ∧ (fv_24 89).toInt ≤ 441 := hF_fv_24 89
        exact ih_8 v_25 fv_24 ar_19 _ _ ls (by omega) (iv_w t_26.2 (by decide) (by decide)) hF_fv_24 (fM_put (fM_call (fM_rf [89] _) fr_3 (by decide)) efv_24 (by decide)) hA_ar_19 (fA_put (fA_call (fA_rf [78] _) fa_5 (by decide)) ear_19 (by decide)) (by omega) (by omega) hP hS (lv_sub hl [1, 2, 3, 0] rfl)
  · skip
    have z_30 : (0 : Int32).toInt = 0 := by decide
    have z_31 : 0 ≤ (fv 89).toInt ∧ (fv 89).toInt ≤ 441 := hF_fv 89
    exact hj_10 21 0 fv ar _ _ ls (by first | decide | omega) (iv_w (⟨by decide, by decide⟩ : (0 : Int) ≤ (0 : Int32).toInt ∧ (0 : Int32).toInt ≤ 0) (by decide) (by decide)) hF_fv (fM_rf [89] _) hA_ar (fA_rf [78] _) (by omega) (by omega) hP hS (lv_sub hl [1, 2, 3, 0] rfl)
set_option maxHeartbeats 4000000 in
set_option maxRecDepth 100000 in
theorem m_keep_79 (l : Launch) (dC : Nat → ClassId) (dI : Nat → Nat → Nat) (sz h : Nat) (ad : Nat → Nat) (cA : Nat → ClassId) (hd : dM h ad) (fv : Nat → Int32) (wd : Int64) (ar : Nat → Nat → Int32) (hF_fv : rF fv) (hA_ar : rA ar) (nn : Int32) (h_nn : 0 ≤ nn.toInt ∧ nn.toInt ≤ 20) (hk : (fv 89).toInt + nn.toInt ≤ 441) : Met l yX12_keep (.code yX12_keep cX12_keep 4 none :: lw_good) ({ frames := 2, cells := 0, slots := 0, locals := 40 }) (va_Pc [.ref h, .ref (ad 79), .int nn] (prM dC dI h ad cA fv wd ar sz)) (va_Qv (fun (u : mS) => rF u.1 ∧ rA u.2.2 ∧ fM [89] fv u.1 ∧ fA [88] ar u.2.2 ∧ ((u.1 89).toInt = (fv 89).toInt + nn.toInt) ∧ True) (enM dC dI h ad cA) (aM h ad sz)) 0 0 (aM h ad sz) := by
  refine Met.ofW (cc := cX12_keep) (maxL := 4) (ret := none) (by decide) rfl ?_
  intro p e s m args below meth c s₁ B hml hv
  obtain ⟨rfl, hsz, hP, hK⟩ := hv
  have hx := B.exec
  have hb := B.bytes
  have hr := B.returns
  have hts := atoms_spec (ws := (.code yX12_keep cX12_keep 4 none :: lw_good)) B.pre
  have htg : ∀ w ∈ lw_good, w.before _ s = true := fun w hw => hts w (List.mem_cons_of_mem _ hw)
  have hown : s.vm.findClass RX12 = some m.cls := findClass_of_methodNamed B.named
  have hlocks := B.notSynchronized
  subst hsz
  have hS : va_S (aM h ad s.heap.size) s.heap s.heap [] := va_S.rf
  have hl := lv_entry ([.ref h, .ref (ad 79), .int nn]) (n := 4) (Nat.le_of_ble_eq_true rfl)
  rw [lg_entry_eq]
  generalize (lg_sl ([.ref h, .ref (ad 79), .int nn]) ++ List.replicate (4 - (lg_sl ([.ref h, .ref (ad 79), .int nn])).length) Slot.unset).toArray = ls at hl ⊢
  have hl : lv_has ls 4 [(0, .ref h), (1, .ref (ad 79)), (2, .int nn)] := hl
  refine lv_iconst (v := 0) hx hb dX12_keep_0 (by decide) ?_
  refine lv_istore_n (lv' := [(3, .int 0), (0, .ref h), (1, .ref (ad 79)), (2, .int nn)]) hx hb dX12_keep_1 rfl hl (by decide) rfl (fun ls hl => ?_)
  refine my_cut (P := fun R9 a9 Q9 => ∀ (n_8 : Nat) (x_1 : Int32) (fv_2 : Nat → Int32) (ar_4 : Nat → Nat → Int32) (H : Heap) (locs : List Loc) (ls : Array Slot), 20 - x_1.toInt < (n_8 : Int) → (0 ≤ x_1.toInt ∧ x_1.toInt ≤ 20) → rF fv_2 → fM [89] fv fv_2 → rA ar_4 → fA [88] ar ar_4 → ((fv_2 89).toInt = (fv 89).toInt + x_1.toInt) → (x_1.toInt ≤ nn.toInt) → va_P (dC, dI) vwCl (wsM h ad cA fv_2 wd ar_4) H → va_S (aM h ad s.heap.size) s.heap H locs → lv_has ls 4 [(0, .ref h), (1, .ref (ad 79)), (2, .int nn), (3, .int x_1)] → W p l e R9 s m a9 below meth c H locs 0 0 Q9 (F0 m 2 ls [])) ?_ (fun hj_10 => ?_)
  · intro n_8
    induction n_8 with
    | zero => intro x_1 fv_2 ar_4 H locs ls fu_9 i_x_1 hF_fv_2 fr_3 hA_ar_4 fa_5 q_6 q_7; exfalso; omega
    | succ n_8 ih_8 =>
      intro x_1 fv_2 ar_4 H locs ls fu_9 i_x_1 hF_fv_2 fr_3 hA_ar_4 fa_5 q_6 q_7 hP hS hl
      refine lv_iload_n hx hb dX12_keep_2 rfl (lv_at hl 3 rfl) ?_
      refine lv_iload_n hx hb dX12_keep_3 rfl (lv_at hl 2 rfl) ?_
      refine lv_icmp_ge (tgt := 35) hx hb dX12_keep_4 (by decide) (fun c_11 => ?_) (fun c_11 => ?_)
      · skip
        have k_12 := Int32.le_iff_toInt_le.mp c_11
        have z_13 : 0 ≤ (fv_2 89).toInt ∧ (fv_2 89).toInt ≤ 441 := hF_fv_2 89
        exact W.vret hx hb hr (fun t ht hW => ⟨⟨(fv_2, wd, ar_4), rfl, ⟨hF_fv_2, hA_ar_4, (fM_call (fM_rf [89] _) fr_3 (by decide)), (fA_call (fA_rf [88] _) fa_5 (by decide)), (show (fv_2 89).toInt = (fv 89).toInt + nn.toInt from by omega), trivial⟩, ⟨by rw [ht]; exact hP, va_K.moved hW.alike hK⟩⟩, hS.F ht⟩) hS.2.2 dX12_keep_35
      · skip
        have i_14 : 0 ≤ x_1.toInt ∧ x_1.toInt ≤ 19 := iv_lt1 i_x_1 h_nn (Int32.not_le.mp c_11)
        have i_15 : 1 ≤ nn.toInt ∧ nn.toInt ≤ 20 := iv_lt2 i_x_1 h_nn (Int32.not_le.mp c_11)
        have k_16 := Int32.lt_iff_toInt_lt.mp (Int32.not_le.mp c_11)
        refine lv_aload_n hx hb dX12_keep_7 rfl (lv_at hl 0 rfl) ?_
        refine gM_88 hx hb htg hown hK hP dX12_keep_8 ?_
        refine lv_aload_n hx hb dX12_keep_11 rfl (lv_at hl 0 rfl) ?_
        refine gM_89 hx hb htg hown hK hP dX12_keep_12 ?_
        have i_17 : 0 ≤ (fv_2 89).toInt ∧ (fv_2 89).toInt ≤ 441 := hF_fv_2 89
        refine lv_aload_n hx hb dX12_keep_15 rfl (lv_at hl 1 rfl) ?_
        refine lv_iload_n hx hb dX12_keep_16 rfl (lv_at hl 3 rfl) ?_
        refine lM_79 hx hb hK hP (iv_in i_14 (by decide) (by decide)) dX12_keep_17 (fun v_18 ev_18 => ?_)
        refine sM_88 hx hb hK hP hS hd (vp_in_iff.mpr (by omega)) dX12_keep_18 (fun H locs ar_19 ear_19 hP hS => ?_)
        have hA_ar_19 : rA ar_19 := rA_put hA_ar_4 ear_19 (iv_any _)
        refine lv_aload_n hx hb dX12_keep_19 rfl (lv_at hl 0 rfl) ?_
        refine lv_dup hx hb dX12_keep_20 rfl ?_
        refine gM_89 hx hb htg hown hK hP dX12_keep_21 ?_
        refine lv_iconst (v := 1) hx hb dX12_keep_24 (by decide) ?_
        refine lv_iadd hx hb dX12_keep_25 ?_
        refine lv_topi (fun v_20 ev_20 => ?_)
        have t_21 : v_20.toInt = (fv_2 89).toInt + 1 ∧ 1 ≤ v_20.toInt ∧ v_20.toInt ≤ 442 := iv_addc ev_20 i_17 (by decide) (by decide) (by decide)
        have i_23 : 0 ≤ v_20.toInt ∧ v_20.toInt ≤ 441 := (by omega)
        refine pM_89 hx hb htg hown hK hP hS hd dX12_keep_26 (fun H locs fv_24 efv_24 hP hS => ?_)
        have hF_fv_24 : rF fv_24 := rF_put hF_fv_2 efv_24 i_23
        obtain ⟨v_25, ev_25⟩ : ∃ z : Int32, z = x_1 + 1 := ⟨_, rfl⟩
        refine lv_iinc (v := v_25) (lv' := [(3, .int v_25), (0, .ref h), (1, .ref (ad 79)), (2, .int nn)]) hx hb dX12_keep_29 hl (k := 3) rfl (by rw [ev_25]; rfl) (by decide) rfl (fun ls hl => ?_)
        have t_26 : v_25.toInt = x_1.toInt + 1 ∧ 1 ≤ v_25.toInt ∧ v_25.toInt ≤ 20 := iv_addc ev_25 i_14 (by decide) (by decide) (by decide)
        refine lv_goto (tgt := 2) hx hb dX12_keep_32 (by decide) ?_
        have z_28 : (fv_24 89).toInt = v_20.toInt := congrArg Int32.toInt ((congrFun efv_24 89))
        have z_29 : 0 ≤ (fv_24 89).toInt ∧ (fv_24 89).toInt ≤ 441 := hF_fv_24 89
        exact ih_8 v_25 fv_24 ar_19 _ _ ls (by omega) (iv_w t_26.2 (by decide) (by decide)) hF_fv_24 (fM_put (fM_call (fM_rf [89] _) fr_3 (by decide)) efv_24 (by decide)) hA_ar_19 (fA_put (fA_call (fA_rf [88] _) fa_5 (by decide)) ear_19 (by decide)) (by omega) (by omega) hP hS (lv_sub hl [1, 2, 3, 0] rfl)
  · skip
    have z_30 : (0 : Int32).toInt = 0 := by decide
    have z_31 : 0 ≤ (fv 89).toInt ∧ (fv 89).toInt ≤ 441 := hF_fv 89
    exact hj_10 21 0 fv ar _ _ ls (by first | decide | omega) (iv_w (⟨by decide, by decide⟩ : (0 : Int) ≤ (0 : Int32).toInt ∧ (0 : Int32).toInt ≤ 0) (by decide) (by decide)) hF_fv (fM_rf [89] _) hA_ar (fA_rf [88] _) (by omega) (by omega) hP hS (lv_sub hl [1, 2, 3, 0] rfl)
set_option maxHeartbeats 4000000 in
set_option maxRecDepth 100000 in
theorem m_putBack_79 (l : Launch) (dC : Nat → ClassId) (dI : Nat → Nat → Nat) (sz h : Nat) (ad : Nat → Nat) (cA : Nat → ClassId) (hd : dM h ad) (fv : Nat → Int32) (wd : Int64) (ar : Nat → Nat → Int32) (hF_fv : rF fv) (hA_ar : rA ar) (nn : Int32) (h_nn : 0 ≤ nn.toInt ∧ nn.toInt ≤ 20) (hk : (fv 89).toInt + nn.toInt ≤ 441) : Met l yX12_putBack (.code yX12_putBack cX12_putBack 4 none :: lw_good) ({ frames := 2, cells := 0, slots := 0, locals := 40 }) (va_Pc [.ref h, .ref (ad 79), .int nn] (prM dC dI h ad cA fv wd ar sz)) (va_Qv (fun (u : mS) => rF u.1 ∧ rA u.2.2 ∧ fM [89] fv u.1 ∧ fA [79] ar u.2.2 ∧ ((u.1 89).toInt = (fv 89).toInt + nn.toInt) ∧ True) (enM dC dI h ad cA) (aM h ad sz)) 0 0 (aM h ad sz) := by
  refine Met.ofW (cc := cX12_putBack) (maxL := 4) (ret := none) (by decide) rfl ?_
  intro p e s m args below meth c s₁ B hml hv
  obtain ⟨rfl, hsz, hP, hK⟩ := hv
  have hx := B.exec
  have hb := B.bytes
  have hr := B.returns
  have hts := atoms_spec (ws := (.code yX12_putBack cX12_putBack 4 none :: lw_good)) B.pre
  have htg : ∀ w ∈ lw_good, w.before _ s = true := fun w hw => hts w (List.mem_cons_of_mem _ hw)
  have hown : s.vm.findClass RX12 = some m.cls := findClass_of_methodNamed B.named
  have hlocks := B.notSynchronized
  subst hsz
  have hS : va_S (aM h ad s.heap.size) s.heap s.heap [] := va_S.rf
  have hl := lv_entry ([.ref h, .ref (ad 79), .int nn]) (n := 4) (Nat.le_of_ble_eq_true rfl)
  rw [lg_entry_eq]
  generalize (lg_sl ([.ref h, .ref (ad 79), .int nn]) ++ List.replicate (4 - (lg_sl ([.ref h, .ref (ad 79), .int nn])).length) Slot.unset).toArray = ls at hl ⊢
  have hl : lv_has ls 4 [(0, .ref h), (1, .ref (ad 79)), (2, .int nn)] := hl
  refine lv_iconst (v := 0) hx hb dX12_putBack_0 (by decide) ?_
  refine lv_istore_n (lv' := [(3, .int 0), (0, .ref h), (1, .ref (ad 79)), (2, .int nn)]) hx hb dX12_putBack_1 rfl hl (by decide) rfl (fun ls hl => ?_)
  refine my_cut (P := fun R9 a9 Q9 => ∀ (n_8 : Nat) (x_1 : Int32) (fv_2 : Nat → Int32) (ar_4 : Nat → Nat → Int32) (H : Heap) (locs : List Loc) (ls : Array Slot), 20 - x_1.toInt < (n_8 : Int) → (0 ≤ x_1.toInt ∧ x_1.toInt ≤ 20) → rF fv_2 → fM [89] fv fv_2 → rA ar_4 → fA [79] ar ar_4 → ((fv_2 89).toInt = (fv 89).toInt + x_1.toInt) → (x_1.toInt ≤ nn.toInt) → va_P (dC, dI) vwCl (wsM h ad cA fv_2 wd ar_4) H → va_S (aM h ad s.heap.size) s.heap H locs → lv_has ls 4 [(0, .ref h), (1, .ref (ad 79)), (2, .int nn), (3, .int x_1)] → W p l e R9 s m a9 below meth c H locs 0 0 Q9 (F0 m 2 ls [])) ?_ (fun hj_10 => ?_)
  · intro n_8
    induction n_8 with
    | zero => intro x_1 fv_2 ar_4 H locs ls fu_9 i_x_1 hF_fv_2 fr_3 hA_ar_4 fa_5 q_6 q_7; exfalso; omega
    | succ n_8 ih_8 =>
      intro x_1 fv_2 ar_4 H locs ls fu_9 i_x_1 hF_fv_2 fr_3 hA_ar_4 fa_5 q_6 q_7 hP hS hl
      refine lv_iload_n hx hb dX12_putBack_2 rfl (lv_at hl 3 rfl) ?_
      refine lv_iload_n hx hb dX12_putBack_3 rfl (lv_at hl 2 rfl) ?_
      refine lv_icmp_ge (tgt := 35) hx hb dX12_putBack_4 (by decide) (fun c_11 => ?_) (fun c_11 => ?_)
      · skip
        have k_12 := Int32.le_iff_toInt_le.mp c_11
        have z_13 : 0 ≤ (fv_2 89).toInt ∧ (fv_2 89).toInt ≤ 441 := hF_fv_2 89
        exact W.vret hx hb hr (fun t ht hW => ⟨⟨(fv_2, wd, ar_4), rfl, ⟨hF_fv_2, hA_ar_4, (fM_call (fM_rf [89] _) fr_3 (by decide)), (fA_call (fA_rf [79] _) fa_5 (by decide)), (show (fv_2 89).toInt = (fv 89).toInt + nn.toInt from by omega), trivial⟩, ⟨by rw [ht]; exact hP, va_K.moved hW.alike hK⟩⟩, hS.F ht⟩) hS.2.2 dX12_putBack_35
      · skip
        have i_14 : 0 ≤ x_1.toInt ∧ x_1.toInt ≤ 19 := iv_lt1 i_x_1 h_nn (Int32.not_le.mp c_11)
        have i_15 : 1 ≤ nn.toInt ∧ nn.toInt ≤ 20 := iv_lt2 i_x_1 h_nn (Int32.not_le.mp c_11)
        have k_16 := Int32.lt_iff_toInt_lt.mp (Int32.not_le.mp c_11)
        refine lv_aload_n hx hb dX12_putBack_7 rfl (lv_at hl 1 rfl) ?_
        refine lv_iload_n hx hb dX12_putBack_8 rfl (lv_at hl 3 rfl) ?_
        refine lv_aload_n hx hb dX12_putBack_9 rfl (lv_at hl 0 rfl) ?_
        refine gM_88 hx hb htg hown hK hP dX12_putBack_10 ?_
        refine lv_aload_n hx hb dX12_putBack_13 rfl (lv_at hl 0 rfl) ?_
        refine gM_89 hx hb htg hown hK hP dX12_putBack_14 ?_
        have i_17 : 0 ≤ (fv_2 89).toInt ∧ (fv_2 89).toInt ≤ 441 := hF_fv_2 89
        refine lM_88 hx hb hK hP (vp_in_iff.mpr (by omega)) dX12_putBack_17 (fun v_18 ev_18 => ?_)
        refine sM_79 hx hb hK hP hS hd (iv_in i_14 (by decide) (by decide)) dX12_putBack_18 (fun H locs ar_19 ear_19 hP hS => ?_)
        have hA_ar_19 : rA ar_19 := rA_put hA_ar_4 ear_19 (iv_any _)
        refine lv_aload_n hx hb dX12_putBack_19 rfl (lv_at hl 0 rfl) ?_
        refine lv_dup hx hb dX12_putBack_20 rfl ?_
        refine gM_89 hx hb htg hown hK hP dX12_putBack_21 ?_
        refine lv_iconst (v := 1) hx hb dX12_putBack_24 (by decide) ?_
        refine lv_iadd hx hb dX12_putBack_25 ?_
        refine lv_topi (fun v_20 ev_20 => ?_)
        have t_21 : v_20.toInt = (fv_2 89).toInt + 1 ∧ 1 ≤ v_20.toInt ∧ v_20.toInt ≤ 442 := iv_addc ev_20 i_17 (by decide) (by decide) (by decide)
        have i_23 : 0 ≤ v_20.toInt ∧ v_20.toInt ≤ 441 := (by omega)
        refine pM_89 hx hb htg hown hK hP hS hd dX12_putBack_26 (fun H locs fv_24 efv_24 hP hS => ?_)
        have hF_fv_24 : rF fv_24 := rF_put hF_fv_2 efv_24 i_23
        obtain ⟨v_25, ev_25⟩ : ∃ z : Int32, z = x_1 + 1 := ⟨_, rfl⟩
        refine lv_iinc (v := v_25) (lv' := [(3, .int v_25), (0, .ref h), (1, .ref (ad 79)), (2, .int nn)]) hx hb dX12_putBack_29 hl (k := 3) rfl (by rw [ev_25]; rfl) (by decide) rfl (fun ls hl => ?_)
        have t_26 : v_25.toInt = x_1.toInt + 1 ∧ 1 ≤ v_25.toInt ∧ v_25.toInt ≤ 20 := iv_addc ev_25 i_14 (by decide) (by decide) (by decide)
        refine lv_goto (tgt := 2) hx hb dX12_putBack_32 (by decide) ?_
        have z_28 : (fv_24 89).toInt = v_20.toInt := congrArg Int32.toInt ((congrFun efv_24 89))
        have z_29 : 0 ≤ (fv_24 89).toInt ∧ (fv_24 89).toInt ≤ 441 := hF_fv_24 89
        exact ih_8 v_25 fv_24 ar_19 _ _ ls (by omega) (iv_w t_26.2 (by decide) (by decide)) hF_fv_24 (fM_put (fM_call (fM_rf [89] _) fr_3 (by decide)) efv_24 (by decide)) hA_ar_19 (fA_put (fA_call (fA_rf [79] _) fa_5 (by decide)) ear_19 (by decide)) (by omega) (by omega) hP hS (lv_sub hl [1, 2, 3, 0] rfl)
  · skip
    have z_30 : (0 : Int32).toInt = 0 := by decide
    have z_31 : 0 ≤ (fv 89).toInt ∧ (fv 89).toInt ≤ 441 := hF_fv 89
    exact hj_10 21 0 fv ar _ _ ls (by first | decide | omega) (iv_w (⟨by decide, by decide⟩ : (0 : Int) ≤ (0 : Int32).toInt ∧ (0 : Int32).toInt ≤ 0) (by decide) (by decide)) hF_fv (fM_rf [89] _) hA_ar (fA_rf [79] _) (by omega) (by omega) hP hS (lv_sub hl [1, 2, 3, 0] rfl)
set_option maxHeartbeats 4000000 in
set_option maxRecDepth 100000 in
theorem m_tried (l : Launch) (dC : Nat → ClassId) (dI : Nat → Nat → Nat) (sz h : Nat) (ad : Nat → Nat) (cA : Nat → ClassId) (hd : dM h ad) (fv : Nat → Int32) (wd : Int64) (ar : Nat → Nat → Int32) (hF_fv : rF fv) (hA_ar : rA ar) (a : Int32) (hp_sW : sW ar) (hp_vM : vM fv ar) : Met l yX12_tried (.code yX12_tried cX12_tried 4 (some .int) :: lw_good) ({ frames := 10, cells := 0, slots := 0, locals := 225 }) (va_Pc [.ref h, .int a] (prM dC dI h ad cA fv wd ar sz)) (va_Qi (fun (r : Int32) (u : mS) => rF u.1 ∧ rA u.2.2 ∧ fM [0, 8, 36, 66, 84, 85, 87, 89] fv u.1 ∧ fA [4, 15, 16, 18, 24, 64, 65, 68, 69, 70, 71, 72, 73, 74, 75, 76, 77, 78, 79, 80, 82, 83, 88] ar u.2.2 ∧ (sW u.2.2) ∧ True) (enM dC dI h ad cA) (aM h ad sz)) 0 0 (aM h ad sz) := by
  refine Met.ofW (cc := cX12_tried) (maxL := 4) (ret := (some .int)) (by decide) rfl ?_
  intro p e s m args below meth c s₁ B hml hv
  obtain ⟨rfl, hsz, hP, hK⟩ := hv
  have hx := B.exec
  have hb := B.bytes
  have hr := B.returns
  have hts := atoms_spec (ws := (.code yX12_tried cX12_tried 4 (some .int) :: lw_good)) B.pre
  have htg : ∀ w ∈ lw_good, w.before _ s = true := fun w hw => hts w (List.mem_cons_of_mem _ hw)
  have hown : s.vm.findClass RX12 = some m.cls := findClass_of_methodNamed B.named
  have hlocks := B.notSynchronized
  subst hsz
  have hS : va_S (aM h ad s.heap.size) s.heap s.heap [] := va_S.rf
  have hl := lv_entry ([.ref h, .int a]) (n := 4) (Nat.le_of_ble_eq_true rfl)
  rw [lg_entry_eq]
  generalize (lg_sl ([.ref h, .int a]) ++ List.replicate (4 - (lg_sl ([.ref h, .int a])).length) Slot.unset).toArray = ls at hl ⊢
  have hl : lv_has ls 4 [(0, .ref h), (1, .int a)] := hl
  refine lv_aload_n hx hb dX12_tried_0 rfl (lv_at hl 0 rfl) ?_
  refine lv_iconst (v := 0) hx hb dX12_tried_1 (by decide) ?_
  refine pM_0 hx hb htg hown hK hP hS hd dX12_tried_2 (fun H locs fv_1 efv_1 hP hS => ?_)
  have hF_fv_1 : rF fv_1 := rF_put hF_fv efv_1 (iv_any _)
  refine lv_aload_n hx hb dX12_tried_5 rfl (lv_at hl 0 rfl) ?_
  refine lv_iload_n hx hb dX12_tried_6 rfl (lv_at hl 1 rfl) ?_
  refine va_calli (va_runV (As := [.int a]) (rest := []) ⟨hx, hb, hml, hown, hts⟩ (m_isWheel l dC dI H.size h ad cA hd fv_1 wd ar hF_fv_1 hA_ar a) (cwV 1 hts (gV kw_8_40 kw_8_42 kw_p_63 kw_1_15 kw_8_43) rfl rfl rfl (by decide +kernel) ⟨Nat.le_of_ble_eq_true rfl, Nat.le_of_ble_eq_true rfl⟩) ⟨fun a U g mk q => ⟨q.1, q.2.1, q.2.2.1, va_K.moved (u := U) (U := U.calling g mk a) (Vm.Alike.refl U.vm) q.2.2.2⟩, va_recv hK hP (ci := 12) (q0 := 0) rfl rfl, fun U hU hW => ⟨rfl, by rw [hU], by rw [hU]; exact hP, va_K.moved hW.alike hK⟩⟩ rfl rfl hl.1 rfl (lv_room (Nat.le_of_ble_eq_true rfl)) dX12_tried_7 ⟨Nat.le_of_ble_eq_true rfl, Nat.le_of_ble_eq_true rfl⟩) hS (fun q _ h9 => aM_up hS q h9) (aM_up hS) (fun r_2 u t H1 locs ht _ hw hB _ hk1 hS => ?_)
  obtain ⟨fv_5, wd_6, ar_7⟩ := u
  obtain ⟨hF_fv_5, hA_ar_7, fr_8, fa_9, p_3, p_4, -⟩ := hw
  have hP : va_P (dC, dI) vwCl (wsM h ad cA fv_5 wd_6 ar_7) H1 := by have h9 := hB.1; rw [ht] at h9; exact h9
  have fr_8 : fM [] fv_1 fv_5 := fr_8
  have fa_9 : fA [] ar ar_7 := fa_9
  generalize H1 = H at hP hS ⊢
  rcases p_4 with ⟨rfl, p_4⟩ | ⟨rfl, p_4⟩
  · skip
    refine lv_if_eq (tgt := 24) hx hb dX12_tried_10 (by decide) (fun c_10 => ?_) (fun c_10 => ?_)
    · skip
      refine lv_iconst (v := (-1)) hx hb dX12_tried_24 (by decide) ?_
      exact W.iret (v := (-1)) hx hb hr (fun t ht hW => ⟨⟨(-1), (fv_5, wd_6, ar_7), rfl, ⟨hF_fv_5, hA_ar_7, (fM_call (fM_put (fM_rf [0, 8, 36, 66, 84, 85, 87, 89] _) efv_1 (by decide)) fr_8 (by decide)), (fA_call (fA_rf [4, 15, 16, 18, 24, 64, 65, 68, 69, 70, 71, 72, 73, 74, 75, 76, 77, 78, 79, 80, 82, 83, 88] _) fa_9 (by decide)), (sW_fr hp_sW (fA_call (fA_rf [] _) fa_9 (by decide)) rfl rfl), trivial⟩, ⟨by rw [ht]; exact hP, va_K.moved hW.alike hK⟩⟩, hS.F ht⟩) hS.2.2 dX12_tried_25
    · skip
      exact absurd c_10 (by decide)
  · skip
    have i_11 : 0 ≤ a.toInt ∧ a.toInt ≤ 2147483647 := ⟨p_4.1, (iv_any a).2⟩
    have i_12 : 0 ≤ a.toInt ∧ a.toInt ≤ 19 := ⟨i_11.1, p_4.2⟩
    refine lv_if_eq (tgt := 24) hx hb dX12_tried_10 (by decide) (fun c_13 => ?_) (fun c_13 => ?_)
    · skip
      exact absurd c_13 (by decide)
    · skip
      refine lv_aload_n hx hb dX12_tried_13 rfl (lv_at hl 0 rfl) ?_
      refine gM_86 hx hb htg hown hK hP dX12_tried_14 ?_
      refine my_ti (y := fv 86) ((fr_8 86 rfl).trans ((congrFun efv_1 86))) ?_
      refine lv_aload_n hx hb dX12_tried_17 rfl (lv_at hl 0 rfl) ?_
      refine gM_3 hx hb htg hown hK hP dX12_tried_18 ?_
      refine my_ti (y := fv 3) ((fr_8 3 rfl).trans ((congrFun efv_1 3))) ?_
      have i_14 : 0 ≤ (fv 3).toInt ∧ (fv 3).toInt ≤ 199 := hF_fv 3
      refine lv_icmp_ne (tgt := 26) hx hb dX12_tried_21 (by decide) (fun c_15 => ?_) (fun c_15 => ?_)
      · skip
        refine lv_aload_n hx hb dX12_tried_26 rfl (lv_at hl 0 rfl) ?_
        refine lv_iconst (v := 0) hx hb dX12_tried_27 (by decide) ?_
        refine pM_89 hx hb htg hown hK hP hS hd dX12_tried_28 (fun H locs fv_16 efv_16 hP hS => ?_)
        have hF_fv_16 : rF fv_16 := rF_put hF_fv_5 efv_16 (iv_w (⟨by decide, by decide⟩ : (0 : Int) ≤ (0 : Int32).toInt ∧ (0 : Int32).toInt ≤ 0) (by decide) (by decide))
        refine lv_aload_n hx hb dX12_tried_31 rfl (lv_at hl 0 rfl) ?_
        refine gM_36 hx hb htg hown hK hP dX12_tried_32 ?_
        refine my_ti (y := fv 36) ((congrFun efv_16 36).trans ((fr_8 36 rfl).trans ((congrFun efv_1 36)))) ?_
        refine lv_istore_n (lv' := [(2, .int (fv 36)), (0, .ref h), (1, .int a)]) hx hb dX12_tried_35 rfl hl (by decide) rfl (fun ls hl => ?_)
        refine lv_aload_n hx hb dX12_tried_36 rfl (lv_at hl 1 rfl) ?_
        refine lv_aload_n hx hb dX12_tried_37 rfl (lv_at hl 1 rfl) ?_
        refine gM_15 hx hb htg hown hK hP dX12_tried_38 ?_
        refine lv_aload_n hx hb dX12_tried_41 rfl (lv_at hl 1 rfl) ?_
        refine gM_32 hx hb htg hown hK hP dX12_tried_42 ?_
        refine my_ti (y := fv 32) ((congrFun efv_16 32).trans ((fr_8 32 rfl).trans ((congrFun efv_1 32)))) ?_
        have i_17 : 0 ≤ (fv 32).toInt ∧ (fv 32).toInt ≤ 40 := hF_fv 32
        have z_18 : (fv_16 89).toInt = (0 : Int32).toInt := congrArg Int32.toInt ((congrFun efv_16 89))
        have z_19 : (0 : Int32).toInt = 0 := by decide
        have z_20 : 0 ≤ (fv_16 89).toInt ∧ (fv_16 89).toInt ≤ 441 := hF_fv_16 89
        have z_21 : (fv_16 89).toInt = (0 : Int32).toInt := congrArg Int32.toInt ((congrFun efv_16 89))
        have z_22 : (0 : Int32).toInt = 0 := by decide
        have z_23 : 0 ≤ (fv_16 89).toInt ∧ (fv_16 89).toInt ≤ 441 := hF_fv_16 89
        refine va_callv (va_runV (As := [.ref (ad 15), .int (fv 32)]) (rest := []) ⟨hx, hb, hml, hown, hts⟩ (m_keep_15 l dC dI H.size h ad cA hd fv_16 wd_6 ar_7 hF_fv_16 hA_ar_7 (fv 32) i_17 (by omega)) (cwV 2 hts (gV kw_8_236 kw_8_238 kw_p_98 kw_1_15 kw_8_239) rfl rfl rfl (by decide +kernel) ⟨Nat.le_of_ble_eq_true rfl, Nat.le_of_ble_eq_true rfl⟩) ⟨fun a U g mk q => ⟨q.1, q.2.1, q.2.2.1, va_K.moved (u := U) (U := U.calling g mk a) (Vm.Alike.refl U.vm) q.2.2.2⟩, va_recv hK hP (ci := 12) (q0 := 0) rfl rfl, fun U hU hW => ⟨rfl, by rw [hU], by rw [hU]; exact hP, va_K.moved hW.alike hK⟩⟩ rfl rfl hl.1 rfl (lv_room (Nat.le_of_ble_eq_true rfl)) dX12_tried_45 ⟨Nat.le_of_ble_eq_true rfl, Nat.le_of_ble_eq_true rfl⟩) hS (fun q _ h9 => aM_up hS q h9) (aM_up hS) (fun u t H1 locs ht _ hw hB _ hk1 hS => ?_)
        obtain ⟨fv_26, wd_27, ar_28⟩ := u
        obtain ⟨hF_fv_26, hA_ar_28, fr_29, fa_30, p_25, -⟩ := hw
        have hP : va_P (dC, dI) vwCl (wsM h ad cA fv_26 wd_27 ar_28) H1 := by have h9 := hB.1; rw [ht] at h9; exact h9
        have fr_29 : fM [89] fv_16 fv_26 := fr_29
        have fa_30 : fA [88] ar_7 ar_28 := fa_30
        have p_25 : (fv_26 89).toInt = (fv_16 89).toInt + (fv 32).toInt := p_25
        generalize H1 = H at hP hS ⊢
        refine lv_aload_n hx hb dX12_tried_48 rfl (lv_at hl 1 rfl) ?_
        refine lv_aload_n hx hb dX12_tried_49 rfl (lv_at hl 1 rfl) ?_
        refine gM_16 hx hb htg hown hK hP dX12_tried_50 ?_
        refine lv_aload_n hx hb dX12_tried_53 rfl (lv_at hl 1 rfl) ?_
        refine gM_32 hx hb htg hown hK hP dX12_tried_54 ?_
        refine my_ti (y := fv 32) ((fr_29 32 rfl).trans ((congrFun efv_16 32).trans ((fr_8 32 rfl).trans ((congrFun efv_1 32))))) ?_
        have z_31 : 0 ≤ (fv_26 89).toInt ∧ (fv_26 89).toInt ≤ 441 := hF_fv_26 89
        have z_32 : 0 ≤ (fv_26 89).toInt ∧ (fv_26 89).toInt ≤ 441 := hF_fv_26 89
        refine va_callv (va_runV (As := [.ref (ad 16), .int (fv 32)]) (rest := []) ⟨hx, hb, hml, hown, hts⟩ (m_keep_16 l dC dI H.size h ad cA hd fv_26 wd_27 ar_28 hF_fv_26 hA_ar_28 (fv 32) i_17 (by omega)) (cwV 2 hts (gV kw_8_236 kw_8_238 kw_p_98 kw_1_15 kw_8_239) rfl rfl rfl (by decide +kernel) ⟨Nat.le_of_ble_eq_true rfl, Nat.le_of_ble_eq_true rfl⟩) ⟨fun a U g mk q => ⟨q.1, q.2.1, q.2.2.1, va_K.moved (u := U) (U := U.calling g mk a) (Vm.Alike.refl U.vm) q.2.2.2⟩, va_recv hK hP (ci := 12) (q0 := 0) rfl rfl, fun U hU hW => ⟨rfl, by rw [hU], by rw [hU]; exact hP, va_K.moved hW.alike hK⟩⟩ rfl rfl hl.1 rfl (lv_room (Nat.le_of_ble_eq_true rfl)) dX12_tried_57 ⟨Nat.le_of_ble_eq_true rfl, Nat.le_of_ble_eq_true rfl⟩) hS (fun q _ h9 => aM_up hS q h9) (aM_up hS) (fun u t H1 locs ht _ hw hB _ hk1 hS => ?_)
        obtain ⟨fv_35, wd_36, ar_37⟩ := u
        obtain ⟨hF_fv_35, hA_ar_37, fr_38, fa_39, p_34, -⟩ := hw
        have hP : va_P (dC, dI) vwCl (wsM h ad cA fv_35 wd_36 ar_37) H1 := by have h9 := hB.1; rw [ht] at h9; exact h9
        have fr_38 : fM [89] fv_26 fv_35 := fr_38
        have fa_39 : fA [88] ar_28 ar_37 := fa_39
        have p_34 : (fv_35 89).toInt = (fv_26 89).toInt + (fv 32).toInt := p_34
        generalize H1 = H at hP hS ⊢
        refine lv_aload_n hx hb dX12_tried_60 rfl (lv_at hl 1 rfl) ?_
        refine lv_aload_n hx hb dX12_tried_61 rfl (lv_at hl 1 rfl) ?_
        refine gM_18 hx hb htg hown hK hP dX12_tried_62 ?_
        refine lv_aload_n hx hb dX12_tried_65 rfl (lv_at hl 1 rfl) ?_
        refine gM_32 hx hb htg hown hK hP dX12_tried_66 ?_
        refine my_ti (y := fv 32) ((fr_38 32 rfl).trans ((fr_29 32 rfl).trans ((congrFun efv_16 32).trans ((fr_8 32 rfl).trans ((congrFun efv_1 32)))))) ?_
        have z_40 : 0 ≤ (fv_35 89).toInt ∧ (fv_35 89).toInt ≤ 441 := hF_fv_35 89
        have z_41 : 0 ≤ (fv_35 89).toInt ∧ (fv_35 89).toInt ≤ 441 := hF_fv_35 89
        refine va_callv (va_runV (As := [.ref (ad 18), .int (fv 32)]) (rest := []) ⟨hx, hb, hml, hown, hts⟩ (m_keep_18 l dC dI H.size h ad cA hd fv_35 wd_36 ar_37 hF_fv_35 hA_ar_37 (fv 32) i_17 (by omega)) (cwV 2 hts (gV kw_8_236 kw_8_238 kw_p_98 kw_1_15 kw_8_239) rfl rfl rfl (by decide +kernel) ⟨Nat.le_of_ble_eq_true rfl, Nat.le_of_ble_eq_true rfl⟩) ⟨fun a U g mk q => ⟨q.1, q.2.1, q.2.2.1, va_K.moved (u := U) (U := U.calling g mk a) (Vm.Alike.refl U.vm) q.2.2.2⟩, va_recv hK hP (ci := 12) (q0 := 0) rfl rfl, fun U hU hW => ⟨rfl, by rw [hU], by rw [hU]; exact hP, va_K.moved hW.alike hK⟩⟩ rfl rfl hl.1 rfl (lv_room (Nat.le_of_ble_eq_true rfl)) dX12_tried_69 ⟨Nat.le_of_ble_eq_true rfl, Nat.le_of_ble_eq_true rfl⟩) hS (fun q _ h9 => aM_up hS q h9) (aM_up hS) (fun u t H1 locs ht _ hw hB _ hk1 hS => ?_)
        obtain ⟨fv_44, wd_45, ar_46⟩ := u
        obtain ⟨hF_fv_44, hA_ar_46, fr_47, fa_48, p_43, -⟩ := hw
        have hP : va_P (dC, dI) vwCl (wsM h ad cA fv_44 wd_45 ar_46) H1 := by have h9 := hB.1; rw [ht] at h9; exact h9
        have fr_47 : fM [89] fv_35 fv_44 := fr_47
        have fa_48 : fA [88] ar_37 ar_46 := fa_48
        have p_43 : (fv_44 89).toInt = (fv_35 89).toInt + (fv 32).toInt := p_43
        generalize H1 = H at hP hS ⊢
        refine lv_aload_n hx hb dX12_tried_72 rfl (lv_at hl 1 rfl) ?_
        refine lv_aload_n hx hb dX12_tried_73 rfl (lv_at hl 1 rfl) ?_
        refine gM_72 hx hb htg hown hK hP dX12_tried_74 ?_
        refine lv_aload_n hx hb dX12_tried_77 rfl (lv_at hl 1 rfl) ?_
        refine gM_32 hx hb htg hown hK hP dX12_tried_78 ?_
        refine my_ti (y := fv 32) ((fr_47 32 rfl).trans ((fr_38 32 rfl).trans ((fr_29 32 rfl).trans ((congrFun efv_16 32).trans ((fr_8 32 rfl).trans ((congrFun efv_1 32))))))) ?_
        have z_49 : 0 ≤ (fv_44 89).toInt ∧ (fv_44 89).toInt ≤ 441 := hF_fv_44 89
        have z_50 : 0 ≤ (fv_44 89).toInt ∧ (fv_44 89).toInt ≤ 441 := hF_fv_44 89
        refine va_callv (va_runV (As := [.ref (ad 72), .int (fv 32)]) (rest := []) ⟨hx, hb, hml, hown, hts⟩ (m_keep_72 l dC dI H.size h ad cA hd fv_44 wd_45 ar_46 hF_fv_44 hA_ar_46 (fv 32) i_17 (by omega)) (cwV 2 hts (gV kw_8_236 kw_8_238 kw_p_98 kw_1_15 kw_8_239) rfl rfl rfl (by decide +kernel) ⟨Nat.le_of_ble_eq_true rfl, Nat.le_of_ble_eq_true rfl⟩) ⟨fun a U g mk q => ⟨q.1, q.2.1, q.2.2.1, va_K.moved (u := U) (U := U.calling g mk a) (Vm.Alike.refl U.vm) q.2.2.2⟩, va_recv hK hP (ci := 12) (q0 := 0) rfl rfl, fun U hU hW => ⟨rfl, by rw [hU], by rw [hU]; exact hP, va_K.moved hW.alike hK⟩⟩ rfl rfl hl.1 rfl (lv_room (Nat.le_of_ble_eq_true rfl)) dX12_tried_81 ⟨Nat.le_of_ble_eq_true rfl, Nat.le_of_ble_eq_true rfl⟩) hS (fun q _ h9 => aM_up hS q h9) (aM_up hS) (fun u t H1 locs ht _ hw hB _ hk1 hS => ?_)
        obtain ⟨fv_53, wd_54, ar_55⟩ := u
        obtain ⟨hF_fv_53, hA_ar_55, fr_56, fa_57, p_52, -⟩ := hw
        have hP : va_P (dC, dI) vwCl (wsM h ad cA fv_53 wd_54 ar_55) H1 := by have h9 := hB.1; rw [ht] at h9; exact h9
        have fr_56 : fM [89] fv_44 fv_53 := fr_56
        have fa_57 : fA [88] ar_46 ar_55 := fa_57
        have p_52 : (fv_53 89).toInt = (fv_44 89).toInt + (fv 32).toInt := p_52
        generalize H1 = H at hP hS ⊢
        refine lv_aload_n hx hb dX12_tried_84 rfl (lv_at hl 1 rfl) ?_
        refine lv_aload_n hx hb dX12_tried_85 rfl (lv_at hl 1 rfl) ?_
        refine gM_73 hx hb htg hown hK hP dX12_tried_86 ?_
        refine lv_aload_n hx hb dX12_tried_89 rfl (lv_at hl 1 rfl) ?_
        refine gM_32 hx hb htg hown hK hP dX12_tried_90 ?_
        refine my_ti (y := fv 32) ((fr_56 32 rfl).trans ((fr_47 32 rfl).trans ((fr_38 32 rfl).trans ((fr_29 32 rfl).trans ((congrFun efv_16 32).trans ((fr_8 32 rfl).trans ((congrFun efv_1 32)))))))) ?_
        have z_58 : 0 ≤ (fv_53 89).toInt ∧ (fv_53 89).toInt ≤ 441 := hF_fv_53 89
        have z_59 : 0 ≤ (fv_53 89).toInt ∧ (fv_53 89).toInt ≤ 441 := hF_fv_53 89
        refine va_callv (va_runV (As := [.ref (ad 73), .int (fv 32)]) (rest := []) ⟨hx, hb, hml, hown, hts⟩ (m_keep_73 l dC dI H.size h ad cA hd fv_53 wd_54 ar_55 hF_fv_53 hA_ar_55 (fv 32) i_17 (by omega)) (cwV 2 hts (gV kw_8_236 kw_8_238 kw_p_98 kw_1_15 kw_8_239) rfl rfl rfl (by decide +kernel) ⟨Nat.le_of_ble_eq_true rfl, Nat.le_of_ble_eq_true rfl⟩) ⟨fun a U g mk q => ⟨q.1, q.2.1, q.2.2.1, va_K.moved (u := U) (U := U.calling g mk a) (Vm.Alike.refl U.vm) q.2.2.2⟩, va_recv hK hP (ci := 12) (q0 := 0) rfl rfl, fun U hU hW => ⟨rfl, by rw [hU], by rw [hU]; exact hP, va_K.moved hW.alike hK⟩⟩ rfl rfl hl.1 rfl (lv_room (Nat.le_of_ble_eq_true rfl)) dX12_tried_93 ⟨Nat.le_of_ble_eq_true rfl, Nat.le_of_ble_eq_true rfl⟩) hS (fun q _ h9 => aM_up hS q h9) (aM_up hS) (fun u t H1 locs ht _ hw hB _ hk1 hS => ?_)
        obtain ⟨fv_62, wd_63, ar_64⟩ := u
        obtain ⟨hF_fv_62, hA_ar_64, fr_65, fa_66, p_61, -⟩ := hw
        have hP : va_P (dC, dI) vwCl (wsM h ad cA fv_62 wd_63 ar_64) H1 := by have h9 := hB.1; rw [ht] at h9; exact h9
        have fr_65 : fM [89] fv_53 fv_62 := fr_65
        have fa_66 : fA [88] ar_55 ar_64 := fa_66
        have p_61 : (fv_62 89).toInt = (fv_53 89).toInt + (fv 32).toInt := p_61
        generalize H1 = H at hP hS ⊢
        refine lv_aload_n hx hb dX12_tried_96 rfl (lv_at hl 1 rfl) ?_
        refine lv_aload_n hx hb dX12_tried_97 rfl (lv_at hl 1 rfl) ?_
        refine gM_74 hx hb htg hown hK hP dX12_tried_98 ?_
        refine lv_aload_n hx hb dX12_tried_101 rfl (lv_at hl 1 rfl) ?_
        refine gM_32 hx hb htg hown hK hP dX12_tried_102 ?_
        refine my_ti (y := fv 32) ((fr_65 32 rfl).trans ((fr_56 32 rfl).trans ((fr_47 32 rfl).trans ((fr_38 32 rfl).trans ((fr_29 32 rfl).trans ((congrFun efv_16 32).trans ((fr_8 32 rfl).trans ((congrFun efv_1 32))))))))) ?_
        have z_67 : 0 ≤ (fv_62 89).toInt ∧ (fv_62 89).toInt ≤ 441 := hF_fv_62 89
        have z_68 : 0 ≤ (fv_62 89).toInt ∧ (fv_62 89).toInt ≤ 441 := hF_fv_62 89
        refine va_callv (va_runV (As := [.ref (ad 74), .int (fv 32)]) (rest := []) ⟨hx, hb, hml, hown, hts⟩ (m_keep_74 l dC dI H.size h ad cA hd fv_62 wd_63 ar_64 hF_fv_62 hA_ar_64 (fv 32) i_17 (by omega)) (cwV 2 hts (gV kw_8_236 kw_8_238 kw_p_98 kw_1_15 kw_8_239) rfl rfl rfl (by decide +kernel) ⟨Nat.le_of_ble_eq_true rfl, Nat.le_of_ble_eq_true rfl⟩) ⟨fun a U g mk q => ⟨q.1, q.2.1, q.2.2.1, va_K.moved (u := U) (U := U.calling g mk a) (Vm.Alike.refl U.vm) q.2.2.2⟩, va_recv hK hP (ci := 12) (q0 := 0) rfl rfl, fun U hU hW => ⟨rfl, by rw [hU], by rw [hU]; exact hP, va_K.moved hW.alike hK⟩⟩ rfl rfl hl.1 rfl (lv_room (Nat.le_of_ble_eq_true rfl)) dX12_tried_105 ⟨Nat.le_of_ble_eq_true rfl, Nat.le_of_ble_eq_true rfl⟩) hS (fun q _ h9 => aM_up hS q h9) (aM_up hS) (fun u t H1 locs ht _ hw hB _ hk1 hS => ?_)
        obtain ⟨fv_71, wd_72, ar_73⟩ := u
        obtain ⟨hF_fv_71, hA_ar_73, fr_74, fa_75, p_70, -⟩ := hw
        have hP : va_P (dC, dI) vwCl (wsM h ad cA fv_71 wd_72 ar_73) H1 := by have h9 := hB.1; rw [ht] at h9; exact h9
        have fr_74 : fM [89] fv_62 fv_71 := fr_74
        have fa_75 : fA [88] ar_64 ar_73 := fa_75
        have p_70 : (fv_71 89).toInt = (fv_62 89).toInt + (fv 32).toInt := p_70
        generalize H1 = H at hP hS ⊢
        refine lv_aload_n hx hb dX12_tried_108 rfl (lv_at hl 1 rfl) ?_
        refine lv_aload_n hx hb dX12_tried_109 rfl (lv_at hl 1 rfl) ?_
        refine gM_75 hx hb htg hown hK hP dX12_tried_110 ?_
        refine lv_aload_n hx hb dX12_tried_113 rfl (lv_at hl 1 rfl) ?_
        refine gM_32 hx hb htg hown hK hP dX12_tried_114 ?_
        refine my_ti (y := fv 32) ((fr_74 32 rfl).trans ((fr_65 32 rfl).trans ((fr_56 32 rfl).trans ((fr_47 32 rfl).trans ((fr_38 32 rfl).trans ((fr_29 32 rfl).trans ((congrFun efv_16 32).trans ((fr_8 32 rfl).trans ((congrFun efv_1 32)))))))))) ?_
        have z_76 : 0 ≤ (fv_71 89).toInt ∧ (fv_71 89).toInt ≤ 441 := hF_fv_71 89
        have z_77 : 0 ≤ (fv_71 89).toInt ∧ (fv_71 89).toInt ≤ 441 := hF_fv_71 89
        refine va_callv (va_runV (As := [.ref (ad 75), .int (fv 32)]) (rest := []) ⟨hx, hb, hml, hown, hts⟩ (m_keep_75 l dC dI H.size h ad cA hd fv_71 wd_72 ar_73 hF_fv_71 hA_ar_73 (fv 32) i_17 (by omega)) (cwV 2 hts (gV kw_8_236 kw_8_238 kw_p_98 kw_1_15 kw_8_239) rfl rfl rfl (by decide +kernel) ⟨Nat.le_of_ble_eq_true rfl, Nat.le_of_ble_eq_true rfl⟩) ⟨fun a U g mk q => ⟨q.1, q.2.1, q.2.2.1, va_K.moved (u := U) (U := U.calling g mk a) (Vm.Alike.refl U.vm) q.2.2.2⟩, va_recv hK hP (ci := 12) (q0 := 0) rfl rfl, fun U hU hW => ⟨rfl, by rw [hU], by rw [hU]; exact hP, va_K.moved hW.alike hK⟩⟩ rfl rfl hl.1 rfl (lv_room (Nat.le_of_ble_eq_true rfl)) dX12_tried_117 ⟨Nat.le_of_ble_eq_true rfl, Nat.le_of_ble_eq_true rfl⟩) hS (fun q _ h9 => aM_up hS q h9) (aM_up hS) (fun u t H1 locs ht _ hw hB _ hk1 hS => ?_)
        obtain ⟨fv_80, wd_81, ar_82⟩ := u
        obtain ⟨hF_fv_80, hA_ar_82, fr_83, fa_84, p_79, -⟩ := hw
        have hP : va_P (dC, dI) vwCl (wsM h ad cA fv_80 wd_81 ar_82) H1 := by have h9 := hB.1; rw [ht] at h9; exact h9
        have fr_83 : fM [89] fv_71 fv_80 := fr_83
        have fa_84 : fA [88] ar_73 ar_82 := fa_84
        have p_79 : (fv_80 89).toInt = (fv_71 89).toInt + (fv 32).toInt := p_79
        generalize H1 = H at hP hS ⊢
        refine lv_aload_n hx hb dX12_tried_120 rfl (lv_at hl 1 rfl) ?_
        refine lv_aload_n hx hb dX12_tried_121 rfl (lv_at hl 1 rfl) ?_
        refine gM_24 hx hb htg hown hK hP dX12_tried_122 ?_
        refine lv_aload_n hx hb dX12_tried_125 rfl (lv_at hl 1 rfl) ?_
        refine gM_34 hx hb htg hown hK hP dX12_tried_126 ?_
        refine my_ti (y := fv 34) ((fr_83 34 rfl).trans ((fr_74 34 rfl).trans ((fr_65 34 rfl).trans ((fr_56 34 rfl).trans ((fr_47 34 rfl).trans ((fr_38 34 rfl).trans ((fr_29 34 rfl).trans ((congrFun efv_16 34).trans ((fr_8 34 rfl).trans ((congrFun efv_1 34))))))))))) ?_
        have i_85 : 0 ≤ (fv 34).toInt ∧ (fv 34).toInt ≤ 20 := hF_fv 34
        have z_86 : 0 ≤ (fv_80 89).toInt ∧ (fv_80 89).toInt ≤ 441 := hF_fv_80 89
        have z_87 : 0 ≤ (fv_80 89).toInt ∧ (fv_80 89).toInt ≤ 441 := hF_fv_80 89
        refine va_callv (va_runV (As := [.ref (ad 24), .int (fv 34)]) (rest := []) ⟨hx, hb, hml, hown, hts⟩ (m_keep_24 l dC dI H.size h ad cA hd fv_80 wd_81 ar_82 hF_fv_80 hA_ar_82 (fv 34) i_85 (by omega)) (cwV 2 hts (gV kw_8_236 kw_8_238 kw_p_98 kw_1_15 kw_8_239) rfl rfl rfl (by decide +kernel) ⟨Nat.le_of_ble_eq_true rfl, Nat.le_of_ble_eq_true rfl⟩) ⟨fun a U g mk q => ⟨q.1, q.2.1, q.2.2.1, va_K.moved (u := U) (U := U.calling g mk a) (Vm.Alike.refl U.vm) q.2.2.2⟩, va_recv hK hP (ci := 12) (q0 := 0) rfl rfl, fun U hU hW => ⟨rfl, by rw [hU], by rw [hU]; exact hP, va_K.moved hW.alike hK⟩⟩ rfl rfl hl.1 rfl (lv_room (Nat.le_of_ble_eq_true rfl)) dX12_tried_129 ⟨Nat.le_of_ble_eq_true rfl, Nat.le_of_ble_eq_true rfl⟩) hS (fun q _ h9 => aM_up hS q h9) (aM_up hS) (fun u t H1 locs ht _ hw hB _ hk1 hS => ?_)
        obtain ⟨fv_90, wd_91, ar_92⟩ := u
        obtain ⟨hF_fv_90, hA_ar_92, fr_93, fa_94, p_89, -⟩ := hw
        have hP : va_P (dC, dI) vwCl (wsM h ad cA fv_90 wd_91 ar_92) H1 := by have h9 := hB.1; rw [ht] at h9; exact h9
        have fr_93 : fM [89] fv_80 fv_90 := fr_93
        have fa_94 : fA [88] ar_82 ar_92 := fa_94
        have p_89 : (fv_90 89).toInt = (fv_80 89).toInt + (fv 34).toInt := p_89
        generalize H1 = H at hP hS ⊢
        refine lv_aload_n hx hb dX12_tried_132 rfl (lv_at hl 1 rfl) ?_
        refine lv_aload_n hx hb dX12_tried_133 rfl (lv_at hl 1 rfl) ?_
        refine gM_76 hx hb htg hown hK hP dX12_tried_134 ?_
        refine lv_aload_n hx hb dX12_tried_137 rfl (lv_at hl 1 rfl) ?_
        refine gM_34 hx hb htg hown hK hP dX12_tried_138 ?_
        refine my_ti (y := fv 34) ((fr_93 34 rfl).trans ((fr_83 34 rfl).trans ((fr_74 34 rfl).trans ((fr_65 34 rfl).trans ((fr_56 34 rfl).trans ((fr_47 34 rfl).trans ((fr_38 34 rfl).trans ((fr_29 34 rfl).trans ((congrFun efv_16 34).trans ((fr_8 34 rfl).trans ((congrFun efv_1 34)))))))))))) ?_
        have z_95 : 0 ≤ (fv_90 89).toInt ∧ (fv_90 89).toInt ≤ 441 := hF_fv_90 89
        have z_96 : 0 ≤ (fv_90 89).toInt ∧ (fv_90 89).toInt ≤ 441 := hF_fv_90 89
        refine va_callv (va_runV (As := [.ref (ad 76), .int (fv 34)]) (rest := []) ⟨hx, hb, hml, hown, hts⟩ (m_keep_76 l dC dI H.size h ad cA hd fv_90 wd_91 ar_92 hF_fv_90 hA_ar_92 (fv 34) i_85 (by omega)) (cwV 2 hts (gV kw_8_236 kw_8_238 kw_p_98 kw_1_15 kw_8_239) rfl rfl rfl (by decide +kernel) ⟨Nat.le_of_ble_eq_true rfl, Nat.le_of_ble_eq_true rfl⟩) ⟨fun a U g mk q => ⟨q.1, q.2.1, q.2.2.1, va_K.moved (u := U) (U := U.calling g mk a) (Vm.Alike.refl U.vm) q.2.2.2⟩, va_recv hK hP (ci := 12) (q0 := 0) rfl rfl, fun U hU hW => ⟨rfl, by rw [hU], by rw [hU]; exact hP, va_K.moved hW.alike hK⟩⟩ rfl rfl hl.1 rfl (lv_room (Nat.le_of_ble_eq_true rfl)) dX12_tried_141 ⟨Nat.le_of_ble_eq_true rfl, Nat.le_of_ble_eq_true rfl⟩) hS (fun q _ h9 => aM_up hS q h9) (aM_up hS) (fun u t H1 locs ht _ hw hB _ hk1 hS => ?_)
        obtain ⟨fv_99, wd_100, ar_101⟩ := u
        obtain ⟨hF_fv_99, hA_ar_101, fr_102, fa_103, p_98, -⟩ := hw
        have hP : va_P (dC, dI) vwCl (wsM h ad cA fv_99 wd_100 ar_101) H1 := by have h9 := hB.1; rw [ht] at h9; exact h9
        have fr_102 : fM [89] fv_90 fv_99 := fr_102
        have fa_103 : fA [88] ar_92 ar_101 := fa_103
        have p_98 : (fv_99 89).toInt = (fv_90 89).toInt + (fv 34).toInt := p_98
        generalize H1 = H at hP hS ⊢
        refine lv_aload_n hx hb dX12_tried_144 rfl (lv_at hl 1 rfl) ?_
        refine lv_aload_n hx hb dX12_tried_145 rfl (lv_at hl 1 rfl) ?_
        refine gM_78 hx hb htg hown hK hP dX12_tried_146 ?_
        refine lv_aload_n hx hb dX12_tried_149 rfl (lv_at hl 1 rfl) ?_
        refine gM_34 hx hb htg hown hK hP dX12_tried_150 ?_
        refine my_ti (y := fv 34) ((fr_102 34 rfl).trans ((fr_93 34 rfl).trans ((fr_83 34 rfl).trans ((fr_74 34 rfl).trans ((fr_65 34 rfl).trans ((fr_56 34 rfl).trans ((fr_47 34 rfl).trans ((fr_38 34 rfl).trans ((fr_29 34 rfl).trans ((congrFun efv_16 34).trans ((fr_8 34 rfl).trans ((congrFun efv_1 34))))))))))))) ?_
        have z_104 : 0 ≤ (fv_99 89).toInt ∧ (fv_99 89).toInt ≤ 441 := hF_fv_99 89
        have z_105 : 0 ≤ (fv_99 89).toInt ∧ (fv_99 89).toInt ≤ 441 := hF_fv_99 89
        refine va_callv (va_runV (As := [.ref (ad 78), .int (fv 34)]) (rest := []) ⟨hx, hb, hml, hown, hts⟩ (m_keep_78 l dC dI H.size h ad cA hd fv_99 wd_100 ar_101 hF_fv_99 hA_ar_101 (fv 34) i_85 (by omega)) (cwV 2 hts (gV kw_8_236 kw_8_238 kw_p_98 kw_1_15 kw_8_239) rfl rfl rfl (by decide +kernel) ⟨Nat.le_of_ble_eq_true rfl, Nat.le_of_ble_eq_true rfl⟩) ⟨fun a U g mk q => ⟨q.1, q.2.1, q.2.2.1, va_K.moved (u := U) (U := U.calling g mk a) (Vm.Alike.refl U.vm) q.2.2.2⟩, va_recv hK hP (ci := 12) (q0 := 0) rfl rfl, fun U hU hW => ⟨rfl, by rw [hU], by rw [hU]; exact hP, va_K.moved hW.alike hK⟩⟩ rfl rfl hl.1 rfl (lv_room (Nat.le_of_ble_eq_true rfl)) dX12_tried_153 ⟨Nat.le_of_ble_eq_true rfl, Nat.le_of_ble_eq_true rfl⟩) hS (fun q _ h9 => aM_up hS q h9) (aM_up hS) (fun u t H1 locs ht _ hw hB _ hk1 hS => ?_)
        obtain ⟨fv_108, wd_109, ar_110⟩ := u
        obtain ⟨hF_fv_108, hA_ar_110, fr_111, fa_112, p_107, -⟩ := hw
        have hP : va_P (dC, dI) vwCl (wsM h ad cA fv_108 wd_109 ar_110) H1 := by have h9 := hB.1; rw [ht] at h9; exact h9
        have fr_111 : fM [89] fv_99 fv_108 := fr_111
        have fa_112 : fA [88] ar_101 ar_110 := fa_112
        have p_107 : (fv_108 89).toInt = (fv_99 89).toInt + (fv 34).toInt := p_107
        generalize H1 = H at hP hS ⊢
        refine lv_aload_n hx hb dX12_tried_156 rfl (lv_at hl 1 rfl) ?_
        refine lv_aload_n hx hb dX12_tried_157 rfl (lv_at hl 1 rfl) ?_
        refine gM_79 hx hb htg hown hK hP dX12_tried_158 ?_
        refine lv_aload_n hx hb dX12_tried_161 rfl (lv_at hl 1 rfl) ?_
        refine gM_34 hx hb htg hown hK hP dX12_tried_162 ?_
        refine my_ti (y := fv 34) ((fr_111 34 rfl).trans ((fr_102 34 rfl).trans ((fr_93 34 rfl).trans ((fr_83 34 rfl).trans ((fr_74 34 rfl).trans ((fr_65 34 rfl).trans ((fr_56 34 rfl).trans ((fr_47 34 rfl).trans ((fr_38 34 rfl).trans ((fr_29 34 rfl).trans ((congrFun efv_16 34).trans ((fr_8 34 rfl).trans ((congrFun efv_1 34)))))))))))))) ?_
        have z_113 : 0 ≤ (fv_108 89).toInt ∧ (fv_108 89).toInt ≤ 441 := hF_fv_108 89
        have z_114 : 0 ≤ (fv_108 89).toInt ∧ (fv_108 89).toInt ≤ 441 := hF_fv_108 89
        refine va_callv (va_runV (As := [.ref (ad 79), .int (fv 34)]) (rest := []) ⟨hx, hb, hml, hown, hts⟩ (m_keep_79 l dC dI H.size h ad cA hd fv_108 wd_109 ar_110 hF_fv_108 hA_ar_110 (fv 34) i_85 (by omega)) (cwV 2 hts (gV kw_8_236 kw_8_238 kw_p_98 kw_1_15 kw_8_239) rfl rfl rfl (by decide +kernel) ⟨Nat.le_of_ble_eq_true rfl, Nat.le_of_ble_eq_true rfl⟩) ⟨fun a U g mk q => ⟨q.1, q.2.1, q.2.2.1, va_K.moved (u := U) (U := U.calling g mk a) (Vm.Alike.refl U.vm) q.2.2.2⟩, va_recv hK hP (ci := 12) (q0 := 0) rfl rfl, fun U hU hW => ⟨rfl, by rw [hU], by rw [hU]; exact hP, va_K.moved hW.alike hK⟩⟩ rfl rfl hl.1 rfl (lv_room (Nat.le_of_ble_eq_true rfl)) dX12_tried_165 ⟨Nat.le_of_ble_eq_true rfl, Nat.le_of_ble_eq_true rfl⟩) hS (fun q _ h9 => aM_up hS q h9) (aM_up hS) (fun u t H1 locs ht _ hw hB _ hk1 hS => ?_)
        obtain ⟨fv_117, wd_118, ar_119⟩ := u
        obtain ⟨hF_fv_117, hA_ar_119, fr_120, fa_121, p_116, -⟩ := hw
        have hP : va_P (dC, dI) vwCl (wsM h ad cA fv_117 wd_118 ar_119) H1 := by have h9 := hB.1; rw [ht] at h9; exact h9
        have fr_120 : fM [89] fv_108 fv_117 := fr_120
        have fa_121 : fA [88] ar_110 ar_119 := fa_121
        have p_116 : (fv_117 89).toInt = (fv_108 89).toInt + (fv 34).toInt := p_116
        generalize H1 = H at hP hS ⊢
        refine lv_aload_n hx hb dX12_tried_168 rfl (lv_at hl 1 rfl) ?_
        refine lv_iload_n hx hb dX12_tried_169 rfl (lv_at hl 2 rfl) ?_
        refine va_callv (va_runV (As := [.int a]) (rest := []) ⟨hx, hb, hml, hown, hts⟩ (m_goThrough l dC dI H.size h ad cA hd fv_117 wd_118 ar_119 hF_fv_117 hA_ar_119 a (sW_fr hp_sW (fA_call (fA_call (fA_call (fA_call (fA_call (fA_call (fA_call (fA_call (fA_call (fA_call (fA_call (fA_call (fA_rf [88] _) fa_9 (by decide)) fa_30 (by decide)) fa_39 (by decide)) fa_48 (by decide)) fa_57 (by decide)) fa_66 (by decide)) fa_75 (by decide)) fa_84 (by decide)) fa_94 (by decide)) fa_103 (by decide)) fa_112 (by decide)) fa_121 (by decide)) rfl rfl) (vM_fr hp_vM (fM_call (fM_call (fM_call (fM_call (fM_call (fM_call (fM_call (fM_call (fM_call (fM_call (fM_call (fM_put (fM_call (fM_put (fM_rf [0, 89] _) efv_1 (by decide)) fr_8 (by decide)) efv_16 (by decide)) fr_29 (by decide)) fr_38 (by decide)) fr_47 (by decide)) fr_56 (by decide)) fr_65 (by decide)) fr_74 (by decide)) fr_83 (by decide)) fr_93 (by decide)) fr_102 (by decide)) fr_111 (by decide)) fr_120 (by decide)) (fA_call (fA_call (fA_call (fA_call (fA_call (fA_call (fA_call (fA_call (fA_call (fA_call (fA_call (fA_call (fA_rf [88] _) fa_9 (by decide)) fa_30 (by decide)) fa_39 (by decide)) fa_48 (by decide)) fa_57 (by decide)) fa_66 (by decide)) fa_75 (by decide)) fa_84 (by decide)) fa_94 (by decide)) fa_103 (by decide)) fa_112 (by decide)) fa_121 (by decide)) rfl rfl rfl rfl rfl)) (cwV 1 hts (gV kw_8_172 kw_8_174 kw_p_83 kw_1_15 kw_8_175) rfl rfl rfl (by decide +kernel) ⟨Nat.le_of_ble_eq_true rfl, Nat.le_of_ble_eq_true rfl⟩) ⟨fun a U g mk q => ⟨q.1, q.2.1, q.2.2.1, va_K.moved (u := U) (U := U.calling g mk a) (Vm.Alike.refl U.vm) q.2.2.2⟩, va_recv hK hP (ci := 12) (q0 := 0) rfl rfl, fun U hU hW => ⟨rfl, by rw [hU], by rw [hU]; exact hP, va_K.moved hW.alike hK⟩⟩ rfl rfl hl.1 rfl (lv_room (Nat.le_of_ble_eq_true rfl)) dX12_tried_170 ⟨Nat.le_of_ble_eq_true rfl, Nat.le_of_ble_eq_true rfl⟩) hS (fun q _ h9 => aM_up hS q h9) (aM_up hS) (fun u t H1 locs ht _ hw hB _ hk1 hS => ?_)
        obtain ⟨fv_124, wd_125, ar_126⟩ := u
        obtain ⟨hF_fv_124, hA_ar_126, fr_127, fa_128, p_123, -⟩ := hw
        have hP : va_P (dC, dI) vwCl (wsM h ad cA fv_124 wd_125 ar_126) H1 := by have h9 := hB.1; rw [ht] at h9; exact h9
        have fr_127 : fM [8, 36, 66, 84, 85, 87] fv_117 fv_124 := fr_127
        have fa_128 : fA [4, 15, 16, 18, 24, 64, 65, 68, 69, 70, 71, 72, 73, 74, 75, 76, 77, 78, 79, 80, 82, 83] ar_119 ar_126 := fa_128
        have p_123 : sW ar_126 := p_123
        generalize H1 = H at hP hS ⊢
        refine lv_aload_n hx hb dX12_tried_173 rfl (lv_at hl 1 rfl) ?_
        refine va_calli (va_runV (As := []) (rest := []) ⟨hx, hb, hml, hown, hts⟩ (m_inTime l dC dI H.size h ad cA hd fv_124 wd_125 ar_126 hF_fv_124 hA_ar_126) (cwV 0 hts (gV kw_8_228 kw_8_230 kw_p_97 kw_1_15 kw_8_231) rfl rfl rfl (by decide +kernel) ⟨Nat.le_of_ble_eq_true rfl, Nat.le_of_ble_eq_true rfl⟩) ⟨fun a U g mk q => ⟨q.1, q.2.1, q.2.2.1, va_K.moved (u := U) (U := U.calling g mk a) (Vm.Alike.refl U.vm) q.2.2.2⟩, va_recv hK hP (ci := 12) (q0 := 0) rfl rfl, fun U hU hW => ⟨rfl, by rw [hU], by rw [hU]; exact hP, va_K.moved hW.alike hK⟩⟩ rfl rfl hl.1 rfl (lv_room (Nat.le_of_ble_eq_true rfl)) dX12_tried_174 ⟨Nat.le_of_ble_eq_true rfl, Nat.le_of_ble_eq_true rfl⟩) hS (fun q _ h9 => aM_up hS q h9) (aM_up hS) (fun r_129 u t H1 locs ht _ hw hB _ hk1 hS => ?_)
        obtain ⟨fv_130, wd_131, ar_132⟩ := u
        obtain ⟨hF_fv_130, hA_ar_132, fr_133, fa_134, -⟩ := hw
        have hP : va_P (dC, dI) vwCl (wsM h ad cA fv_130 wd_131 ar_132) H1 := by have h9 := hB.1; rw [ht] at h9; exact h9
        have fr_133 : fM [] fv_124 fv_130 := fr_133
        have fa_134 : fA [] ar_126 ar_132 := fa_134
        generalize H1 = H at hP hS ⊢
        refine lv_istore_n (lv' := [(3, .int r_129), (2, .int (fv 36)), (0, .ref h), (1, .int a)]) hx hb dX12_tried_177 rfl hl (by decide) rfl (fun ls hl => ?_)
        refine lv_aload_n hx hb dX12_tried_178 rfl (lv_at hl 2 rfl) ?_
        refine lv_iconst (v := 0) hx hb dX12_tried_179 (by decide) ?_
        refine pM_89 hx hb htg hown hK hP hS hd dX12_tried_180 (fun H locs fv_135 efv_135 hP hS => ?_)
        have hF_fv_135 : rF fv_135 := rF_put hF_fv_130 efv_135 (iv_w (⟨by decide, by decide⟩ : (0 : Int) ≤ (0 : Int32).toInt ∧ (0 : Int32).toInt ≤ 0) (by decide) (by decide))
        refine lv_aload_n hx hb dX12_tried_183 rfl (lv_at hl 2 rfl) ?_
        refine lv_iload_n hx hb dX12_tried_184 rfl (lv_at hl 1 rfl) ?_
        refine pM_36 hx hb htg hown hK hP hS hd dX12_tried_185 (fun H locs fv_136 efv_136 hP hS => ?_)
        have hF_fv_136 : rF fv_136 := rF_put hF_fv_135 efv_136 (iv_any (fv 36))
        refine lv_aload_n hx hb dX12_tried_188 rfl (lv_at hl 2 rfl) ?_
        refine lv_aload_n hx hb dX12_tried_189 rfl (lv_at hl 2 rfl) ?_
        refine gM_15 hx hb htg hown hK hP dX12_tried_190 ?_
        refine lv_aload_n hx hb dX12_tried_193 rfl (lv_at hl 2 rfl) ?_
        refine gM_32 hx hb htg hown hK hP dX12_tried_194 ?_
        refine my_ti (y := fv 32) ((congrFun efv_136 32).trans ((congrFun efv_135 32).trans ((fr_133 32 rfl).trans ((fr_127 32 rfl).trans ((fr_120 32 rfl).trans ((fr_111 32 rfl).trans ((fr_102 32 rfl).trans ((fr_93 32 rfl).trans ((fr_83 32 rfl).trans ((fr_74 32 rfl).trans ((fr_65 32 rfl).trans ((fr_56 32 rfl).trans ((fr_47 32 rfl).trans ((fr_38 32 rfl).trans ((fr_29 32 rfl).trans ((congrFun efv_16 32).trans ((fr_8 32 rfl).trans ((congrFun efv_1 32))))))))))))))))))) ?_
        have z_137 : (fv_136 89).toInt = (0 : Int32).toInt := congrArg Int32.toInt ((congrFun efv_136 89).trans ((congrFun efv_135 89)))
        have z_138 : (0 : Int32).toInt = 0 := by decide
        have z_139 : 0 ≤ (fv_136 89).toInt ∧ (fv_136 89).toInt ≤ 441 := hF_fv_136 89
        have z_140 : (fv_136 89).toInt = (0 : Int32).toInt := congrArg Int32.toInt ((congrFun efv_136 89).trans ((congrFun efv_135 89)))
        have z_141 : (0 : Int32).toInt = 0 := by decide
        have z_142 : 0 ≤ (fv_136 89).toInt ∧ (fv_136 89).toInt ≤ 441 := hF_fv_136 89
        refine va_callv (va_runV (As := [.ref (ad 15), .int (fv 32)]) (rest := []) ⟨hx, hb, hml, hown, hts⟩ (m_putBack_15 l dC dI H.size h ad cA hd fv_136 wd_131 ar_132 hF_fv_136 hA_ar_132 (fv 32) i_17 (by omega)) (cwV 2 hts (gV kw_9_0 kw_9_2 kw_p_99 kw_1_15 kw_9_3) rfl rfl rfl (by decide +kernel) ⟨Nat.le_of_ble_eq_true rfl, Nat.le_of_ble_eq_true rfl⟩) ⟨fun a U g mk q => ⟨q.1, q.2.1, q.2.2.1, va_K.moved (u := U) (U := U.calling g mk a) (Vm.Alike.refl U.vm) q.2.2.2⟩, va_recv hK hP (ci := 12) (q0 := 0) rfl rfl, fun U hU hW => ⟨rfl, by rw [hU], by rw [hU]; exact hP, va_K.moved hW.alike hK⟩⟩ rfl rfl hl.1 rfl (lv_room (Nat.le_of_ble_eq_true rfl)) dX12_tried_197 ⟨Nat.le_of_ble_eq_true rfl, Nat.le_of_ble_eq_true rfl⟩) hS (fun q _ h9 => aM_up hS q h9) (aM_up hS) (fun u t H1 locs ht _ hw hB _ hk1 hS => ?_)
        obtain ⟨fv_145, wd_146, ar_147⟩ := u
        obtain ⟨hF_fv_145, hA_ar_147, fr_148, fa_149, p_144, -⟩ := hw
        have hP : va_P (dC, dI) vwCl (wsM h ad cA fv_145 wd_146 ar_147) H1 := by have h9 := hB.1; rw [ht] at h9; exact h9
        have fr_148 : fM [89] fv_136 fv_145 := fr_148
        have fa_149 : fA [15] ar_132 ar_147 := fa_149
        have p_144 : (fv_145 89).toInt = (fv_136 89).toInt + (fv 32).toInt := p_144
        generalize H1 = H at hP hS ⊢
        refine lv_aload_n hx hb dX12_tried_200 rfl (lv_at hl 2 rfl) ?_
        refine lv_aload_n hx hb dX12_tried_201 rfl (lv_at hl 2 rfl) ?_
        refine gM_16 hx hb htg hown hK hP dX12_tried_202 ?_
        refine lv_aload_n hx hb dX12_tried_205 rfl (lv_at hl 2 rfl) ?_
        refine gM_32 hx hb htg hown hK hP dX12_tried_206 ?_
        refine my_ti (y := fv 32) ((fr_148 32 rfl).trans ((congrFun efv_136 32).trans ((congrFun efv_135 32).trans ((fr_133 32 rfl).trans ((fr_127 32 rfl).trans ((fr_120 32 rfl).trans ((fr_111 32 rfl).trans ((fr_102 32 rfl).trans ((fr_93 32 rfl).trans ((fr_83 32 rfl).trans ((fr_74 32 rfl).trans ((fr_65 32 rfl).trans ((fr_56 32 rfl).trans ((fr_47 32 rfl).trans ((fr_38 32 rfl).trans ((fr_29 32 rfl).trans ((congrFun efv_16 32).trans ((fr_8 32 rfl).trans ((congrFun efv_1 32)))))))))))))))))))) ?_
        have z_150 : 0 ≤ (fv_145 89).toInt ∧ (fv_145 89).toInt ≤ 441 := hF_fv_145 89
        have z_151 : 0 ≤ (fv_145 89).toInt ∧ (fv_145 89).toInt ≤ 441 := hF_fv_145 89
        refine va_callv (va_runV (As := [.ref (ad 16), .int (fv 32)]) (rest := []) ⟨hx, hb, hml, hown, hts⟩ (m_putBack_16 l dC dI H.size h ad cA hd fv_145 wd_146 ar_147 hF_fv_145 hA_ar_147 (fv 32) i_17 (by omega)) (cwV 2 hts (gV kw_9_0 kw_9_2 kw_p_99 kw_1_15 kw_9_3) rfl rfl rfl (by decide +kernel) ⟨Nat.le_of_ble_eq_true rfl, Nat.le_of_ble_eq_true rfl⟩) ⟨fun a U g mk q => ⟨q.1, q.2.1, q.2.2.1, va_K.moved (u := U) (U := U.calling g mk a) (Vm.Alike.refl U.vm) q.2.2.2⟩, va_recv hK hP (ci := 12) (q0 := 0) rfl rfl, fun U hU hW => ⟨rfl, by rw [hU], by rw [hU]; exact hP, va_K.moved hW.alike hK⟩⟩ rfl rfl hl.1 rfl (lv_room (Nat.le_of_ble_eq_true rfl)) dX12_tried_209 ⟨Nat.le_of_ble_eq_true rfl, Nat.le_of_ble_eq_true rfl⟩) hS (fun q _ h9 => aM_up hS q h9) (aM_up hS) (fun u t H1 locs ht _ hw hB _ hk1 hS => ?_)
        obtain ⟨fv_154, wd_155, ar_156⟩ := u
        obtain ⟨hF_fv_154, hA_ar_156, fr_157, fa_158, p_153, -⟩ := hw
        have hP : va_P (dC, dI) vwCl (wsM h ad cA fv_154 wd_155 ar_156) H1 := by have h9 := hB.1; rw [ht] at h9; exact h9
        have fr_157 : fM [89] fv_145 fv_154 := fr_157
        have fa_158 : fA [16] ar_147 ar_156 := fa_158
        have p_153 : (fv_154 89).toInt = (fv_145 89).toInt + (fv 32).toInt := p_153
        generalize H1 = H at hP hS ⊢
        refine lv_aload_n hx hb dX12_tried_212 rfl (lv_at hl 2 rfl) ?_
        refine lv_aload_n hx hb dX12_tried_213 rfl (lv_at hl 2 rfl) ?_
        refine gM_18 hx hb htg hown hK hP dX12_tried_214 ?_
        refine lv_aload_n hx hb dX12_tried_217 rfl (lv_at hl 2 rfl) ?_
        refine gM_32 hx hb htg hown hK hP dX12_tried_218 ?_
        refine my_ti (y := fv 32) ((fr_157 32 rfl).trans ((fr_148 32 rfl).trans ((congrFun efv_136 32).trans ((congrFun efv_135 32).trans ((fr_133 32 rfl).trans ((fr_127 32 rfl).trans ((fr_120 32 rfl).trans ((fr_111 32 rfl).trans ((fr_102 32 rfl).trans ((fr_93 32 rfl).trans ((fr_83 32 rfl).trans ((fr_74 32 rfl).trans ((fr_65 32 rfl).trans ((fr_56 32 rfl).trans ((fr_47 32 rfl).trans ((fr_38 32 rfl).trans ((fr_29 32 rfl).trans ((congrFun efv_16 32).trans ((fr_8 32 rfl).trans ((congrFun efv_1 32))))))))))))))))))))) ?_
        have z_159 : 0 ≤ (fv_154 89).toInt ∧ (fv_154 89).toInt ≤ 441 := hF_fv_154 89
        have z_160 : 0 ≤ (fv_154 89).toInt ∧ (fv_154 89).toInt ≤ 441 := hF_fv_154 89
        refine va_callv (va_runV (As := [.ref (ad 18), .int (fv 32)]) (rest := []) ⟨hx, hb, hml, hown, hts⟩ (m_putBack_18 l dC dI H.size h ad cA hd fv_154 wd_155 ar_156 hF_fv_154 hA_ar_156 (fv 32) i_17 (by omega)) (cwV 2 hts (gV kw_9_0 kw_9_2 kw_p_99 kw_1_15 kw_9_3) rfl rfl rfl (by decide +kernel) ⟨Nat.le_of_ble_eq_true rfl, Nat.le_of_ble_eq_true rfl⟩) ⟨fun a U g mk q => ⟨q.1, q.2.1, q.2.2.1, va_K.moved (u := U) (U := U.calling g mk a) (Vm.Alike.refl U.vm) q.2.2.2⟩, va_recv hK hP (ci := 12) (q0 := 0) rfl rfl, fun U hU hW => ⟨rfl, by rw [hU], by rw [hU]; exact hP, va_K.moved hW.alike hK⟩⟩ rfl rfl hl.1 rfl (lv_room (Nat.le_of_ble_eq_true rfl)) dX12_tried_221 ⟨Nat.le_of_ble_eq_true rfl, Nat.le_of_ble_eq_true rfl⟩) hS (fun q _ h9 => aM_up hS q h9) (aM_up hS) (fun u t H1 locs ht _ hw hB _ hk1 hS => ?_)
        obtain ⟨fv_163, wd_164, ar_165⟩ := u
        obtain ⟨hF_fv_163, hA_ar_165, fr_166, fa_167, p_162, -⟩ := hw
        have hP : va_P (dC, dI) vwCl (wsM h ad cA fv_163 wd_164 ar_165) H1 := by have h9 := hB.1; rw [ht] at h9; exact h9
        have fr_166 : fM [89] fv_154 fv_163 := fr_166
        have fa_167 : fA [18] ar_156 ar_165 := fa_167
        have p_162 : (fv_163 89).toInt = (fv_154 89).toInt + (fv 32).toInt := p_162
        generalize H1 = H at hP hS ⊢
        refine lv_aload_n hx hb dX12_tried_224 rfl (lv_at hl 2 rfl) ?_
        refine lv_aload_n hx hb dX12_tried_225 rfl (lv_at hl 2 rfl) ?_
        refine gM_72 hx hb htg hown hK hP dX12_tried_226 ?_
        refine lv_aload_n hx hb dX12_tried_229 rfl (lv_at hl 2 rfl) ?_
        refine gM_32 hx hb htg hown hK hP dX12_tried_230 ?_
        refine my_ti (y := fv 32) ((fr_166 32 rfl).trans ((fr_157 32 rfl).trans ((fr_148 32 rfl).trans ((congrFun efv_136 32).trans ((congrFun efv_135 32).trans ((fr_133 32 rfl).trans ((fr_127 32 rfl).trans ((fr_120 32 rfl).trans ((fr_111 32 rfl).trans ((fr_102 32 rfl).trans ((fr_93 32 rfl).trans ((fr_83 32 rfl).trans ((fr_74 32 rfl).trans ((fr_65 32 rfl).trans ((fr_56 32 rfl).trans ((fr_47 32 rfl).trans ((fr_38 32 rfl).trans ((fr_29 32 rfl).trans ((congrFun efv_16 32).trans ((fr_8 32 rfl).trans ((congrFun efv_1 32)))))))))))))))))))))) ?_
        have z_168 : 0 ≤ (fv_163 89).toInt ∧ (fv_163 89).toInt ≤ 441 := hF_fv_163 89
        have z_169 : 0 ≤ (fv_163 89).toInt ∧ (fv_163 89).toInt ≤ 441 := hF_fv_163 89
        refine va_callv (va_runV (As := [.ref (ad 72), .int (fv 32)]) (rest := []) ⟨hx, hb, hml, hown, hts⟩ (m_putBack_72 l dC dI H.size h ad cA hd fv_163 wd_164 ar_165 hF_fv_163 hA_ar_165 (fv 32) i_17 (by omega)) (cwV 2 hts (gV kw_9_0 kw_9_2 kw_p_99 kw_1_15 kw_9_3) rfl rfl rfl (by decide +kernel) ⟨Nat.le_of_ble_eq_true rfl, Nat.le_of_ble_eq_true rfl⟩) ⟨fun a U g mk q => ⟨q.1, q.2.1, q.2.2.1, va_K.moved (u := U) (U := U.calling g mk a) (Vm.Alike.refl U.vm) q.2.2.2⟩, va_recv hK hP (ci := 12) (q0 := 0) rfl rfl, fun U hU hW => ⟨rfl, by rw [hU], by rw [hU]; exact hP, va_K.moved hW.alike hK⟩⟩ rfl rfl hl.1 rfl (lv_room (Nat.le_of_ble_eq_true rfl)) dX12_tried_233 ⟨Nat.le_of_ble_eq_true rfl, Nat.le_of_ble_eq_true rfl⟩) hS (fun q _ h9 => aM_up hS q h9) (aM_up hS) (fun u t H1 locs ht _ hw hB _ hk1 hS => ?_)
        obtain ⟨fv_172, wd_173, ar_174⟩ := u
        obtain ⟨hF_fv_172, hA_ar_174, fr_175, fa_176, p_171, -⟩ := hw
        have hP : va_P (dC, dI) vwCl (wsM h ad cA fv_172 wd_173 ar_174) H1 := by have h9 := hB.1; rw [ht] at h9; exact h9
        have fr_175 : fM [89] fv_163 fv_172 := fr_175
        have fa_176 : fA [72] ar_165 ar_174 := fa_176
        have p_171 : (fv_172 89).toInt = (fv_163 89).toInt + (fv 32).toInt := p_171
        generalize H1 = H at hP hS ⊢
        refine lv_aload_n hx hb dX12_tried_236 rfl (lv_at hl 2 rfl) ?_
        refine lv_aload_n hx hb dX12_tried_237 rfl (lv_at hl 2 rfl) ?_
        refine gM_73 hx hb htg hown hK hP dX12_tried_238 ?_
        refine lv_aload_n hx hb dX12_tried_241 rfl (lv_at hl 2 rfl) ?_
        refine gM_32 hx hb htg hown hK hP dX12_tried_242 ?_
        refine my_ti (y := fv 32) ((fr_175 32 rfl).trans ((fr_166 32 rfl).trans ((fr_157 32 rfl).trans ((fr_148 32 rfl).trans ((congrFun efv_136 32).trans ((congrFun efv_135 32).trans ((fr_133 32 rfl).trans ((fr_127 32 rfl).trans ((fr_120 32 rfl).trans ((fr_111 32 rfl).trans ((fr_102 32 rfl).trans ((fr_93 32 rfl).trans ((fr_83 32 rfl).trans ((fr_74 32 rfl).trans ((fr_65 32 rfl).trans ((fr_56 32 rfl).trans ((fr_47 32 rfl).trans ((fr_38 32 rfl).trans ((fr_29 32 rfl).trans ((congrFun efv_16 32).trans ((fr_8 32 rfl).trans ((congrFun efv_1 32))))))))))))))))))))))) ?_
        have z_177 : 0 ≤ (fv_172 89).toInt ∧ (fv_172 89).toInt ≤ 441 := hF_fv_172 89
        have z_178 : 0 ≤ (fv_172 89).toInt ∧ (fv_172 89).toInt ≤ 441 := hF_fv_172 89
        refine va_callv (va_runV (As := [.ref (ad 73), .int (fv 32)]) (rest := []) ⟨hx, hb, hml, hown, hts⟩ (m_putBack_73 l dC dI H.size h ad cA hd fv_172 wd_173 ar_174 hF_fv_172 hA_ar_174 (fv 32) i_17 (by omega)) (cwV 2 hts (gV kw_9_0 kw_9_2 kw_p_99 kw_1_15 kw_9_3) rfl rfl rfl (by decide +kernel) ⟨Nat.le_of_ble_eq_true rfl, Nat.le_of_ble_eq_true rfl⟩) ⟨fun a U g mk q => ⟨q.1, q.2.1, q.2.2.1, va_K.moved (u := U) (U := U.calling g mk a) (Vm.Alike.refl U.vm) q.2.2.2⟩, va_recv hK hP (ci := 12) (q0 := 0) rfl rfl, fun U hU hW => ⟨rfl, by rw [hU], by rw [hU]; exact hP, va_K.moved hW.alike hK⟩⟩ rfl rfl hl.1 rfl (lv_room (Nat.le_of_ble_eq_true rfl)) dX12_tried_245 ⟨Nat.le_of_ble_eq_true rfl, Nat.le_of_ble_eq_true rfl⟩) hS (fun q _ h9 => aM_up hS q h9) (aM_up hS) (fun u t H1 locs ht _ hw hB _ hk1 hS => ?_)
        obtain ⟨fv_181, wd_182, ar_183⟩ := u
        obtain ⟨hF_fv_181, hA_ar_183, fr_184, fa_185, p_180, -⟩ := hw
        have hP : va_P (dC, dI) vwCl (wsM h ad cA fv_181 wd_182 ar_183) H1 := by have h9 := hB.1; rw [ht] at h9; exact h9
        have fr_184 : fM [89] fv_172 fv_181 := fr_184
        have fa_185 : fA [73] ar_174 ar_183 := fa_185
        have p_180 : (fv_181 89).toInt = (fv_172 89).toInt + (fv 32).toInt := p_180
        generalize H1 = H at hP hS ⊢
        refine lv_aload_n hx hb dX12_tried_248 rfl (lv_at hl 2 rfl) ?_
        refine lv_aload_n hx hb dX12_tried_249 rfl (lv_at hl 2 rfl) ?_
        refine gM_74 hx hb htg hown hK hP dX12_tried_250 ?_
        refine lv_aload_n hx hb dX12_tried_253 rfl (lv_at hl 2 rfl) ?_
        refine gM_32 hx hb htg hown hK hP dX12_tried_254 ?_
        refine my_ti (y := fv 32) ((fr_184 32 rfl).trans ((fr_175 32 rfl).trans ((fr_166 32 rfl).trans ((fr_157 32 rfl).trans ((fr_148 32 rfl).trans ((congrFun efv_136 32).trans ((congrFun efv_135 32).trans ((fr_133 32 rfl).trans ((fr_127 32 rfl).trans ((fr_120 32 rfl).trans ((fr_111 32 rfl).trans ((fr_102 32 rfl).trans ((fr_93 32 rfl).trans ((fr_83 32 rfl).trans ((fr_74 32 rfl).trans ((fr_65 32 rfl).trans ((fr_56 32 rfl).trans ((fr_47 32 rfl).trans ((fr_38 32 rfl).trans ((fr_29 32 rfl).trans ((congrFun efv_16 32).trans ((fr_8 32 rfl).trans ((congrFun efv_1 32)))))))))))))))))))))))) ?_
        have z_186 : 0 ≤ (fv_181 89).toInt ∧ (fv_181 89).toInt ≤ 441 := hF_fv_181 89
        have z_187 : 0 ≤ (fv_181 89).toInt ∧ (fv_181 89).toInt ≤ 441 := hF_fv_181 89
        refine va_callv (va_runV (As := [.ref (ad 74), .int (fv 32)]) (rest := []) ⟨hx, hb, hml, hown, hts⟩ (m_putBack_74 l dC dI H.size h ad cA hd fv_181 wd_182 ar_183 hF_fv_181 hA_ar_183 (fv 32) i_17 (by omega)) (cwV 2 hts (gV kw_9_0 kw_9_2 kw_p_99 kw_1_15 kw_9_3) rfl rfl rfl (by decide +kernel) ⟨Nat.le_of_ble_eq_true rfl, Nat.le_of_ble_eq_true rfl⟩) ⟨fun a U g mk q => ⟨q.1, q.2.1, q.2.2.1, va_K.moved (u := U) (U := U.calling g mk a) (Vm.Alike.refl U.vm) q.2.2.2⟩, va_recv hK hP (ci := 12) (q0 := 0) rfl rfl, fun U hU hW => ⟨rfl, by rw [hU], by rw [hU]; exact hP, va_K.moved hW.alike hK⟩⟩ rfl rfl hl.1 rfl (lv_room (Nat.le_of_ble_eq_true rfl)) dX12_tried_257 ⟨Nat.le_of_ble_eq_true rfl, Nat.le_of_ble_eq_true rfl⟩) hS (fun q _ h9 => aM_up hS q h9) (aM_up hS) (fun u t H1 locs ht _ hw hB _ hk1 hS => ?_)
        obtain ⟨fv_190, wd_191, ar_192⟩ := u
        obtain ⟨hF_fv_190, hA_ar_192, fr_193, fa_194, p_189, -⟩ := hw
        have hP : va_P (dC, dI) vwCl (wsM h ad cA fv_190 wd_191 ar_192) H1 := by have h9 := hB.1; rw [ht] at h9; exact h9
        have fr_193 : fM [89] fv_181 fv_190 := fr_193
        have fa_194 : fA [74] ar_183 ar_192 := fa_194
        have p_189 : (fv_190 89).toInt = (fv_181 89).toInt + (fv 32).toInt := p_189
        generalize H1 = H at hP hS ⊢
        refine lv_aload_n hx hb dX12_tried_260 rfl (lv_at hl 2 rfl) ?_
        refine lv_aload_n hx hb dX12_tried_261 rfl (lv_at hl 2 rfl) ?_
        refine gM_75 hx hb htg hown hK hP dX12_tried_262 ?_
        refine lv_aload_n hx hb dX12_tried_265 rfl (lv_at hl 2 rfl) ?_
        refine gM_32 hx hb htg hown hK hP dX12_tried_266 ?_
        refine my_ti (y := fv 32) ((fr_193 32 rfl).trans ((fr_184 32 rfl).trans ((fr_175 32 rfl).trans ((fr_166 32 rfl).trans ((fr_157 32 rfl).trans ((fr_148 32 rfl).trans ((congrFun efv_136 32).trans ((congrFun efv_135 32).trans ((fr_133 32 rfl).trans ((fr_127 32 rfl).trans ((fr_120 32 rfl).trans ((fr_111 32 rfl).trans ((fr_102 32 rfl).trans ((fr_93 32 rfl).trans ((fr_83 32 rfl).trans ((fr_74 32 rfl).trans ((fr_65 32 rfl).trans ((fr_56 32 rfl).trans ((fr_47 32 rfl).trans ((fr_38 32 rfl).trans ((fr_29 32 rfl).trans ((congrFun efv_16 32).trans ((fr_8 32 rfl).trans ((congrFun efv_1 32))))))))))))))))))))))))) ?_
        have z_195 : 0 ≤ (fv_190 89).toInt ∧ (fv_190 89).toInt ≤ 441 := hF_fv_190 89
        have z_196 : 0 ≤ (fv_190 89).toInt ∧ (fv_190 89).toInt ≤ 441 := hF_fv_190 89
        refine va_callv (va_runV (As := [.ref (ad 75), .int (fv 32)]) (rest := []) ⟨hx, hb, hml, hown, hts⟩ (m_putBack_75 l dC dI H.size h ad cA hd fv_190 wd_191 ar_192 hF_fv_190 hA_ar_192 (fv 32) i_17 (by omega)) (cwV 2 hts (gV kw_9_0 kw_9_2 kw_p_99 kw_1_15 kw_9_3) rfl rfl rfl (by decide +kernel) ⟨Nat.le_of_ble_eq_true rfl, Nat.le_of_ble_eq_true rfl⟩) ⟨fun a U g mk q => ⟨q.1, q.2.1, q.2.2.1, va_K.moved (u := U) (U := U.calling g mk a) (Vm.Alike.refl U.vm) q.2.2.2⟩, va_recv hK hP (ci := 12) (q0 := 0) rfl rfl, fun U hU hW => ⟨rfl, by rw [hU], by rw [hU]; exact hP, va_K.moved hW.alike hK⟩⟩ rfl rfl hl.1 rfl (lv_room (Nat.le_of_ble_eq_true rfl)) dX12_tried_269 ⟨Nat.le_of_ble_eq_true rfl, Nat.le_of_ble_eq_true rfl⟩) hS (fun q _ h9 => aM_up hS q h9) (aM_up hS) (fun u t H1 locs ht _ hw hB _ hk1 hS => ?_)
        obtain ⟨fv_199, wd_200, ar_201⟩ := u
        obtain ⟨hF_fv_199, hA_ar_201, fr_202, fa_203, p_198, -⟩ := hw
        have hP : va_P (dC, dI) vwCl (wsM h ad cA fv_199 wd_200 ar_201) H1 := by have h9 := hB.1; rw [ht] at h9; exact h9
        have fr_202 : fM [89] fv_190 fv_199 := fr_202
        have fa_203 : fA [75] ar_192 ar_201 := fa_203
        have p_198 : (fv_199 89).toInt = (fv_190 89).toInt + (fv 32).toInt := p_198
        generalize H1 = H at hP hS ⊢
        refine lv_aload_n hx hb dX12_tried_272 rfl (lv_at hl 2 rfl) ?_
        refine lv_aload_n hx hb dX12_tried_273 rfl (lv_at hl 2 rfl) ?_
        refine gM_24 hx hb htg hown hK hP dX12_tried_274 ?_
        refine lv_aload_n hx hb dX12_tried_277 rfl (lv_at hl 2 rfl) ?_
        refine gM_34 hx hb htg hown hK hP dX12_tried_278 ?_
        refine my_ti (y := fv 34) ((fr_202 34 rfl).trans ((fr_193 34 rfl).trans ((fr_184 34 rfl).trans ((fr_175 34 rfl).trans ((fr_166 34 rfl).trans ((fr_157 34 rfl).trans ((fr_148 34 rfl).trans ((congrFun efv_136 34).trans ((congrFun efv_135 34).trans ((fr_133 34 rfl).trans ((fr_127 34 rfl).trans ((fr_120 34 rfl).trans ((fr_111 34 rfl).trans ((fr_102 34 rfl).trans ((fr_93 34 rfl).trans ((fr_83 34 rfl).trans ((fr_74 34 rfl).trans ((fr_65 34 rfl).trans ((fr_56 34 rfl).trans ((fr_47 34 rfl).trans ((fr_38 34 rfl).trans ((fr_29 34 rfl).trans ((congrFun efv_16 34).trans ((fr_8 34 rfl).trans ((congrFun efv_1 34)))))))))))))))))))))))))) ?_
        have z_204 : 0 ≤ (fv_199 89).toInt ∧ (fv_199 89).toInt ≤ 441 := hF_fv_199 89
        have z_205 : 0 ≤ (fv_199 89).toInt ∧ (fv_199 89).toInt ≤ 441 := hF_fv_199 89
        refine va_callv (va_runV (As := [.ref (ad 24), .int (fv 34)]) (rest := []) ⟨hx, hb, hml, hown, hts⟩ (m_putBack_24 l dC dI H.size h ad cA hd fv_199 wd_200 ar_201 hF_fv_199 hA_ar_201 (fv 34) i_85 (by omega)) (cwV 2 hts (gV kw_9_0 kw_9_2 kw_p_99 kw_1_15 kw_9_3) rfl rfl rfl (by decide +kernel) ⟨Nat.le_of_ble_eq_true rfl, Nat.le_of_ble_eq_true rfl⟩) ⟨fun a U g mk q => ⟨q.1, q.2.1, q.2.2.1, va_K.moved (u := U) (U := U.calling g mk a) (Vm.Alike.refl U.vm) q.2.2.2⟩, va_recv hK hP (ci := 12) (q0 := 0) rfl rfl, fun U hU hW => ⟨rfl, by rw [hU], by rw [hU]; exact hP, va_K.moved hW.alike hK⟩⟩ rfl rfl hl.1 rfl (lv_room (Nat.le_of_ble_eq_true rfl)) dX12_tried_281 ⟨Nat.le_of_ble_eq_true rfl, Nat.le_of_ble_eq_true rfl⟩) hS (fun q _ h9 => aM_up hS q h9) (aM_up hS) (fun u t H1 locs ht _ hw hB _ hk1 hS => ?_)
        obtain ⟨fv_208, wd_209, ar_210⟩ := u
        obtain ⟨hF_fv_208, hA_ar_210, fr_211, fa_212, p_207, -⟩ := hw
        have hP : va_P (dC, dI) vwCl (wsM h ad cA fv_208 wd_209 ar_210) H1 := by have h9 := hB.1; rw [ht] at h9; exact h9
        have fr_211 : fM [89] fv_199 fv_208 := fr_211
        have fa_212 : fA [24] ar_201 ar_210 := fa_212
        have p_207 : (fv_208 89).toInt = (fv_199 89).toInt + (fv 34).toInt := p_207
        generalize H1 = H at hP hS ⊢
        refine lv_aload_n hx hb dX12_tried_284 rfl (lv_at hl 2 rfl) ?_
        refine lv_aload_n hx hb dX12_tried_285 rfl (lv_at hl 2 rfl) ?_
        refine gM_76 hx hb htg hown hK hP dX12_tried_286 ?_
        refine lv_aload_n hx hb dX12_tried_289 rfl (lv_at hl 2 rfl) ?_
        refine gM_34 hx hb htg hown hK hP dX12_tried_290 ?_
        refine my_ti (y := fv 34) ((fr_211 34 rfl).trans ((fr_202 34 rfl).trans ((fr_193 34 rfl).trans ((fr_184 34 rfl).trans ((fr_175 34 rfl).trans ((fr_166 34 rfl).trans ((fr_157 34 rfl).trans ((fr_148 34 rfl).trans ((congrFun efv_136 34).trans ((congrFun efv_135 34).trans ((fr_133 34 rfl).trans ((fr_127 34 rfl).trans ((fr_120 34 rfl).trans ((fr_111 34 rfl).trans ((fr_102 34 rfl).trans ((fr_93 34 rfl).trans ((fr_83 34 rfl).trans ((fr_74 34 rfl).trans ((fr_65 34 rfl).trans ((fr_56 34 rfl).trans ((fr_47 34 rfl).trans ((fr_38 34 rfl).trans ((fr_29 34 rfl).trans ((congrFun efv_16 34).trans ((fr_8 34 rfl).trans ((congrFun efv_1 34))))))))))))))))))))))))))) ?_
        have z_213 : 0 ≤ (fv_208 89).toInt ∧ (fv_208 89).toInt ≤ 441 := hF_fv_208 89
        have z_214 : 0 ≤ (fv_208 89).toInt ∧ (fv_208 89).toInt ≤ 441 := hF_fv_208 89
        refine va_callv (va_runV (As := [.ref (ad 76), .int (fv 34)]) (rest := []) ⟨hx, hb, hml, hown, hts⟩ (m_putBack_76 l dC dI H.size h ad cA hd fv_208 wd_209 ar_210 hF_fv_208 hA_ar_210 (fv 34) i_85 (by omega)) (cwV 2 hts (gV kw_9_0 kw_9_2 kw_p_99 kw_1_15 kw_9_3) rfl rfl rfl (by decide +kernel) ⟨Nat.le_of_ble_eq_true rfl, Nat.le_of_ble_eq_true rfl⟩) ⟨fun a U g mk q => ⟨q.1, q.2.1, q.2.2.1, va_K.moved (u := U) (U := U.calling g mk a) (Vm.Alike.refl U.vm) q.2.2.2⟩, va_recv hK hP (ci := 12) (q0 := 0) rfl rfl, fun U hU hW => ⟨rfl, by rw [hU], by rw [hU]; exact hP, va_K.moved hW.alike hK⟩⟩ rfl rfl hl.1 rfl (lv_room (Nat.le_of_ble_eq_true rfl)) dX12_tried_293 ⟨Nat.le_of_ble_eq_true rfl, Nat.le_of_ble_eq_true rfl⟩) hS (fun q _ h9 => aM_up hS q h9) (aM_up hS) (fun u t H1 locs ht _ hw hB _ hk1 hS => ?_)
        obtain ⟨fv_217, wd_218, ar_219⟩ := u
        obtain ⟨hF_fv_217, hA_ar_219, fr_220, fa_221, p_216, -⟩ := hw
        have hP : va_P (dC, dI) vwCl (wsM h ad cA fv_217 wd_218 ar_219) H1 := by have h9 := hB.1; rw [ht] at h9; exact h9
        have fr_220 : fM [89] fv_208 fv_217 := fr_220
        have fa_221 : fA [76] ar_210 ar_219 := fa_221
        have p_216 : (fv_217 89).toInt = (fv_208 89).toInt + (fv 34).toInt := p_216
        generalize H1 = H at hP hS ⊢
        refine lv_aload_n hx hb dX12_tried_296 rfl (lv_at hl 2 rfl) ?_
        refine lv_aload_n hx hb dX12_tried_297 rfl (lv_at hl 2 rfl) ?_
        refine gM_78 hx hb htg hown hK hP dX12_tried_298 ?_
        refine lv_aload_n hx hb dX12_tried_301 rfl (lv_at hl 2 rfl) ?_
        refine gM_34 hx hb htg hown hK hP dX12_tried_302 ?_
        refine my_ti (y := fv 34) ((fr_220 34 rfl).trans ((fr_211 34 rfl).trans ((fr_202 34 rfl).trans ((fr_193 34 rfl).trans ((fr_184 34 rfl).trans ((fr_175 34 rfl).trans ((fr_166 34 rfl).trans ((fr_157 34 rfl).trans ((fr_148 34 rfl).trans ((congrFun efv_136 34).trans ((congrFun efv_135 34).trans ((fr_133 34 rfl).trans ((fr_127 34 rfl).trans ((fr_120 34 rfl).trans ((fr_111 34 rfl).trans ((fr_102 34 rfl).trans ((fr_93 34 rfl).trans ((fr_83 34 rfl).trans ((fr_74 34 rfl).trans ((fr_65 34 rfl).trans ((fr_56 34 rfl).trans ((fr_47 34 rfl).trans ((fr_38 34 rfl).trans ((fr_29 34 rfl).trans ((congrFun efv_16 34).trans ((fr_8 34 rfl).trans ((congrFun efv_1 34)))))))))))))))))))))))))))) ?_
        have z_222 : 0 ≤ (fv_217 89).toInt ∧ (fv_217 89).toInt ≤ 441 := hF_fv_217 89
        have z_223 : 0 ≤ (fv_217 89).toInt ∧ (fv_217 89).toInt ≤ 441 := hF_fv_217 89
        refine va_callv (va_runV (As := [.ref (ad 78), .int (fv 34)]) (rest := []) ⟨hx, hb, hml, hown, hts⟩ (m_putBack_78 l dC dI H.size h ad cA hd fv_217 wd_218 ar_219 hF_fv_217 hA_ar_219 (fv 34) i_85 (by omega)) (cwV 2 hts (gV kw_9_0 kw_9_2 kw_p_99 kw_1_15 kw_9_3) rfl rfl rfl (by decide +kernel) ⟨Nat.le_of_ble_eq_true rfl, Nat.le_of_ble_eq_true rfl⟩) ⟨fun a U g mk q => ⟨q.1, q.2.1, q.2.2.1, va_K.moved (u := U) (U := U.calling g mk a) (Vm.Alike.refl U.vm) q.2.2.2⟩, va_recv hK hP (ci := 12) (q0 := 0) rfl rfl, fun U hU hW => ⟨rfl, by rw [hU], by rw [hU]; exact hP, va_K.moved hW.alike hK⟩⟩ rfl rfl hl.1 rfl (lv_room (Nat.le_of_ble_eq_true rfl)) dX12_tried_305 ⟨Nat.le_of_ble_eq_true rfl, Nat.le_of_ble_eq_true rfl⟩) hS (fun q _ h9 => aM_up hS q h9) (aM_up hS) (fun u t H1 locs ht _ hw hB _ hk1 hS => ?_)
        obtain ⟨fv_226, wd_227, ar_228⟩ := u
        obtain ⟨hF_fv_226, hA_ar_228, fr_229, fa_230, p_225, -⟩ := hw
        have hP : va_P (dC, dI) vwCl (wsM h ad cA fv_226 wd_227 ar_228) H1 := by have h9 := hB.1; rw [ht] at h9; exact h9
        have fr_229 : fM [89] fv_217 fv_226 := fr_229
        have fa_230 : fA [78] ar_219 ar_228 := fa_230
        have p_225 : (fv_226 89).toInt = (fv_217 89).toInt + (fv 34).toInt := p_225
        generalize H1 = H at hP hS ⊢
        refine lv_aload_n hx hb dX12_tried_308 rfl (lv_at hl 2 rfl) ?_
        refine lv_aload_n hx hb dX12_tried_309 rfl (lv_at hl 2 rfl) ?_
        refine gM_79 hx hb htg hown hK hP dX12_tried_310 ?_
        refine lv_aload_n hx hb dX12_tried_313 rfl (lv_at hl 2 rfl) ?_
        refine gM_34 hx hb htg hown hK hP dX12_tried_314 ?_
        refine my_ti (y := fv 34) ((fr_229 34 rfl).trans ((fr_220 34 rfl).trans ((fr_211 34 rfl).trans ((fr_202 34 rfl).trans ((fr_193 34 rfl).trans ((fr_184 34 rfl).trans ((fr_175 34 rfl).trans ((fr_166 34 rfl).trans ((fr_157 34 rfl).trans ((fr_148 34 rfl).trans ((congrFun efv_136 34).trans ((congrFun efv_135 34).trans ((fr_133 34 rfl).trans ((fr_127 34 rfl).trans ((fr_120 34 rfl).trans ((fr_111 34 rfl).trans ((fr_102 34 rfl).trans ((fr_93 34 rfl).trans ((fr_83 34 rfl).trans ((fr_74 34 rfl).trans ((fr_65 34 rfl).trans ((fr_56 34 rfl).trans ((fr_47 34 rfl).trans ((fr_38 34 rfl).trans ((fr_29 34 rfl).trans ((congrFun efv_16 34).trans ((fr_8 34 rfl).trans ((congrFun efv_1 34))))))))))))))))))))))))))))) ?_
        have z_231 : 0 ≤ (fv_226 89).toInt ∧ (fv_226 89).toInt ≤ 441 := hF_fv_226 89
        have z_232 : 0 ≤ (fv_226 89).toInt ∧ (fv_226 89).toInt ≤ 441 := hF_fv_226 89
        refine va_callv (va_runV (As := [.ref (ad 79), .int (fv 34)]) (rest := []) ⟨hx, hb, hml, hown, hts⟩ (m_putBack_79 l dC dI H.size h ad cA hd fv_226 wd_227 ar_228 hF_fv_226 hA_ar_228 (fv 34) i_85 (by omega)) (cwV 2 hts (gV kw_9_0 kw_9_2 kw_p_99 kw_1_15 kw_9_3) rfl rfl rfl (by decide +kernel) ⟨Nat.le_of_ble_eq_true rfl, Nat.le_of_ble_eq_true rfl⟩) ⟨fun a U g mk q => ⟨q.1, q.2.1, q.2.2.1, va_K.moved (u := U) (U := U.calling g mk a) (Vm.Alike.refl U.vm) q.2.2.2⟩, va_recv hK hP (ci := 12) (q0 := 0) rfl rfl, fun U hU hW => ⟨rfl, by rw [hU], by rw [hU]; exact hP, va_K.moved hW.alike hK⟩⟩ rfl rfl hl.1 rfl (lv_room (Nat.le_of_ble_eq_true rfl)) dX12_tried_317 ⟨Nat.le_of_ble_eq_true rfl, Nat.le_of_ble_eq_true rfl⟩) hS (fun q _ h9 => aM_up hS q h9) (aM_up hS) (fun u t H1 locs ht _ hw hB _ hk1 hS => ?_)
        obtain ⟨fv_235, wd_236, ar_237⟩ := u
        obtain ⟨hF_fv_235, hA_ar_237, fr_238, fa_239, p_234, -⟩ := hw
        have hP : va_P (dC, dI) vwCl (wsM h ad cA fv_235 wd_236 ar_237) H1 := by have h9 := hB.1; rw [ht] at h9; exact h9
        have fr_238 : fM [89] fv_226 fv_235 := fr_238
        have fa_239 : fA [79] ar_228 ar_237 := fa_239
        have p_234 : (fv_235 89).toInt = (fv_226 89).toInt + (fv 34).toInt := p_234
        generalize H1 = H at hP hS ⊢
        refine lv_iload_n hx hb dX12_tried_320 rfl (lv_at hl 0 rfl) ?_
        exact W.iret (v := r_129) hx hb hr (fun t ht hW => ⟨⟨r_129, (fv_235, wd_236, ar_237), rfl, ⟨hF_fv_235, hA_ar_237, (fM_call (fM_call (fM_call (fM_call (fM_call (fM_call (fM_call (fM_call (fM_call (fM_call (fM_call (fM_put (fM_put (fM_call (fM_call (fM_call (fM_call (fM_call (fM_call (fM_call (fM_call (fM_call (fM_call (fM_call (fM_call (fM_call (fM_put (fM_call (fM_put (fM_rf [0, 8, 36, 66, 84, 85, 87, 89] _) efv_1 (by decide)) fr_8 (by decide)) efv_16 (by decide)) fr_29 (by decide)) fr_38 (by decide)) fr_47 (by decide)) fr_56 (by decide)) fr_65 (by decide)) fr_74 (by decide)) fr_83 (by decide)) fr_93 (by decide)) fr_102 (by decide)) fr_111 (by decide)) fr_120 (by decide)) fr_127 (by decide)) fr_133 (by decide)) efv_135 (by decide)) efv_136 (by decide)) fr_148 (by decide)) fr_157 (by decide)) fr_166 (by decide)) fr_175 (by decide)) fr_184 (by decide)) fr_193 (by decide)) fr_202 (by decide)) fr_211 (by decide)) fr_220 (by decide)) fr_229 (by decide)) fr_238 (by decide)), (fA_call (fA_call (fA_call (fA_call (fA_call (fA_call (fA_call (fA_call (fA_call (fA_call (fA_call (fA_call (fA_call (fA_call (fA_call (fA_call (fA_call (fA_call (fA_call (fA_call (fA_call (fA_call (fA_call (fA_call (fA_call (fA_rf [4, 15, 16, 18, 24, 64, 65, 68, 69, 70, 71, 72, 73, 74, 75, 76, 77, 78, 79, 80, 82, 83, 88] _) fa_9 (by decide)) fa_30 (by decide)) fa_39 (by decide)) fa_48 (by decide)) fa_57 (by decide)) fa_66 (by decide)) fa_75 (by decide)) fa_84 (by decide)) fa_94 (by decide)) fa_103 (by decide)) fa_112 (by decide)) fa_121 (by decide)) fa_128 (by decide)) fa_134 (by decide)) fa_149 (by decide)) fa_158 (by decide)) fa_167 (by decide)) fa_176 (by decide)) fa_185 (by decide)) fa_194 (by decide)) fa_203 (by decide)) fa_212 (by decide)) fa_221 (by decide)) fa_230 (by decide)) fa_239 (by decide)), (sW_fr p_123 (fA_call (fA_call (fA_call (fA_call (fA_call (fA_call (fA_call (fA_call (fA_call (fA_call (fA_call (fA_call (fA_rf [15, 16, 18, 24, 72, 73, 74, 75, 76, 78, 79] _) fa_134 (by decide)) fa_149 (by decide)) fa_158 (by decide)) fa_167 (by decide)) fa_176 (by decide)) fa_185 (by decide)) fa_194 (by decide)) fa_203 (by decide)) fa_212 (by decide)) fa_221 (by decide)) fa_230 (by decide)) fa_239 (by decide)) rfl rfl), trivial⟩, ⟨by rw [ht]; exact hP, va_K.moved hW.alike hK⟩⟩, hS.F ht⟩) hS.2.2 dX12_tried_321
      · skip
        have i_240 : 0 ≤ (fv 86).toInt ∧ (fv 86).toInt ≤ 199 := iv_eq1 i_14 c_15
        refine lv_iconst (v := (-1)) hx hb dX12_tried_24 (by decide) ?_
        exact W.iret (v := (-1)) hx hb hr (fun t ht hW => ⟨⟨(-1), (fv_5, wd_6, ar_7), rfl, ⟨hF_fv_5, hA_ar_7, (fM_call (fM_put (fM_rf [0, 8, 36, 66, 84, 85, 87, 89] _) efv_1 (by decide)) fr_8 (by decide)), (fA_call (fA_rf [4, 15, 16, 18, 24, 64, 65, 68, 69, 70, 71, 72, 73, 74, 75, 76, 77, 78, 79, 80, 82, 83, 88] _) fa_9 (by decide)), (sW_fr hp_sW (fA_call (fA_rf [] _) fa_9 (by decide)) rfl rfl), trivial⟩, ⟨by rw [ht]; exact hP, va_K.moved hW.alike hK⟩⟩, hS.F ht⟩) hS.2.2 dX12_tried_25
