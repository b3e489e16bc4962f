theorem dX12_goThrough_0 : decode cX12_goThrough 0 = .ok (.aload_n 0, 1) := by decide +kernel
theorem dX12_goThrough_1 : decode cX12_goThrough 1 = .ok (.iload_n 1, 1) := by decide +kernel
theorem dX12_goThrough_2 : decode cX12_goThrough 2 = .ok (.putfield 423, 3) := by decide +kernel
theorem dX12_goThrough_5 : decode cX12_goThrough 5 = .ok (.iconst 0, 1) := by decide +kernel
theorem dX12_goThrough_6 : decode cX12_goThrough 6 = .ok (.istore_n 2, 1) := by decide +kernel
theorem dX12_goThrough_7 : decode cX12_goThrough 7 = .ok (.iload_n 2, 1) := by decide +kernel
theorem dX12_goThrough_8 : decode cX12_goThrough 8 = .ok (.aload_n 0, 1) := by decide +kernel
theorem dX12_goThrough_9 : decode cX12_goThrough 9 = .ok (.getfield 263, 3) := by decide +kernel
theorem dX12_goThrough_12 : decode cX12_goThrough 12 = .ok (.if_icmp .ge 42, 3) := by decide +kernel
theorem dX12_goThrough_15 : decode cX12_goThrough 15 = .ok (.aload_n 0, 1) := by decide +kernel
theorem dX12_goThrough_16 : decode cX12_goThrough 16 = .ok (.getfield 159, 3) := by decide +kernel
theorem dX12_goThrough_19 : decode cX12_goThrough 19 = .ok (.iload_n 2, 1) := by decide +kernel
theorem dX12_goThrough_20 : decode cX12_goThrough 20 = .ok (.aload_n 0, 1) := by decide +kernel
theorem dX12_goThrough_21 : decode cX12_goThrough 21 = .ok (.getfield 55, 3) := by decide +kernel
theorem dX12_goThrough_24 : decode cX12_goThrough 24 = .ok (.iload_n 2, 1) := by decide +kernel
theorem dX12_goThrough_25 : decode cX12_goThrough 25 = .ok (.iaload, 1) := by decide +kernel
theorem dX12_goThrough_26 : decode cX12_goThrough 26 = .ok (.iastore, 1) := by decide +kernel
theorem dX12_goThrough_27 : decode cX12_goThrough 27 = .ok (.aload_n 0, 1) := by decide +kernel
theorem dX12_goThrough_28 : decode cX12_goThrough 28 = .ok (.getfield 162, 3) := by decide +kernel
theorem dX12_goThrough_31 : decode cX12_goThrough 31 = .ok (.iload_n 2, 1) := by decide +kernel
theorem dX12_goThrough_32 : decode cX12_goThrough 32 = .ok (.iconst (-1), 1) := by decide +kernel
theorem dX12_goThrough_33 : decode cX12_goThrough 33 = .ok (.iastore, 1) := by decide +kernel
theorem dX12_goThrough_34 : decode cX12_goThrough 34 = .ok (.aload_n 0, 1) := by decide +kernel
theorem dX12_goThrough_35 : decode cX12_goThrough 35 = .ok (.getfield 165, 3) := by decide +kernel
theorem dX12_goThrough_38 : decode cX12_goThrough 38 = .ok (.iload_n 2, 1) := by decide +kernel
theorem dX12_goThrough_39 : decode cX12_goThrough 39 = .ok (.iconst 0, 1) := by decide +kernel
theorem dX12_goThrough_40 : decode cX12_goThrough 40 = .ok (.iastore, 1) := by decide +kernel
theorem dX12_goThrough_41 : decode cX12_goThrough 41 = .ok (.aload_n 0, 1) := by decide +kernel
theorem dX12_goThrough_42 : decode cX12_goThrough 42 = .ok (.getfield 168, 3) := by decide +kernel
theorem dX12_goThrough_45 : decode cX12_goThrough 45 = .ok (.iload_n 2, 1) := by decide +kernel
theorem dX12_goThrough_46 : decode cX12_goThrough 46 = .ok (.iconst 0, 1) := by decide +kernel
theorem dX12_goThrough_47 : decode cX12_goThrough 47 = .ok (.iastore, 1) := by decide +kernel
theorem dX12_goThrough_48 : decode cX12_goThrough 48 = .ok (.iinc 2 1, 3) := by decide +kernel
theorem dX12_goThrough_51 : decode cX12_goThrough 51 = .ok (.goto (-44), 3) := by decide +kernel
theorem dX12_goThrough_54 : decode cX12_goThrough 54 = .ok (.iconst 0, 1) := by decide +kernel
theorem dX12_goThrough_55 : decode cX12_goThrough 55 = .ok (.istore_n 2, 1) := by decide +kernel
theorem dX12_goThrough_56 : decode cX12_goThrough 56 = .ok (.iload_n 2, 1) := by decide +kernel
theorem dX12_goThrough_57 : decode cX12_goThrough 57 = .ok (.aload_n 0, 1) := by decide +kernel
theorem dX12_goThrough_58 : decode cX12_goThrough 58 = .ok (.getfield 254, 3) := by decide +kernel
theorem dX12_goThrough_61 : decode cX12_goThrough 61 = .ok (.if_icmp .ge 49, 3) := by decide +kernel
theorem dX12_goThrough_64 : decode cX12_goThrough 64 = .ok (.aload_n 0, 1) := by decide +kernel
theorem dX12_goThrough_65 : decode cX12_goThrough 65 = .ok (.getfield 135, 3) := by decide +kernel
theorem dX12_goThrough_68 : decode cX12_goThrough 68 = .ok (.iload_n 2, 1) := by decide +kernel
theorem dX12_goThrough_69 : decode cX12_goThrough 69 = .ok (.iconst 0, 1) := by decide +kernel
theorem dX12_goThrough_70 : decode cX12_goThrough 70 = .ok (.iastore, 1) := by decide +kernel
theorem dX12_goThrough_71 : decode cX12_goThrough 71 = .ok (.aload_n 0, 1) := by decide +kernel
theorem dX12_goThrough_72 : decode cX12_goThrough 72 = .ok (.getfield 138, 3) := by decide +kernel
theorem dX12_goThrough_75 : decode cX12_goThrough 75 = .ok (.iload_n 2, 1) := by decide +kernel
theorem dX12_goThrough_76 : decode cX12_goThrough 76 = .ok (.aload_n 0, 1) := by decide +kernel
theorem dX12_goThrough_77 : decode cX12_goThrough 77 = .ok (.getfield 19, 3) := by decide +kernel
theorem dX12_goThrough_80 : decode cX12_goThrough 80 = .ok (.iload_n 2, 1) := by decide +kernel
theorem dX12_goThrough_81 : decode cX12_goThrough 81 = .ok (.iaload, 1) := by decide +kernel
theorem dX12_goThrough_82 : decode cX12_goThrough 82 = .ok (.iastore, 1) := by decide +kernel
theorem dX12_goThrough_83 : decode cX12_goThrough 83 = .ok (.aload_n 0, 1) := by decide +kernel
theorem dX12_goThrough_84 : decode cX12_goThrough 84 = .ok (.getfield 147, 3) := by decide +kernel
theorem dX12_goThrough_87 : decode cX12_goThrough 87 = .ok (.iload_n 2, 1) := by decide +kernel
theorem dX12_goThrough_88 : decode cX12_goThrough 88 = .ok (.iconst (-1), 1) := by decide +kernel
theorem dX12_goThrough_89 : decode cX12_goThrough 89 = .ok (.iastore, 1) := by decide +kernel
theorem dX12_goThrough_90 : decode cX12_goThrough 90 = .ok (.aload_n 0, 1) := by decide +kernel
theorem dX12_goThrough_91 : decode cX12_goThrough 91 = .ok (.getfield 153, 3) := by decide +kernel
theorem dX12_goThrough_94 : decode cX12_goThrough 94 = .ok (.iload_n 2, 1) := by decide +kernel
theorem dX12_goThrough_95 : decode cX12_goThrough 95 = .ok (.iconst 0, 1) := by decide +kernel
theorem dX12_goThrough_96 : decode cX12_goThrough 96 = .ok (.iastore, 1) := by decide +kernel
theorem dX12_goThrough_97 : decode cX12_goThrough 97 = .ok (.aload_n 0, 1) := by decide +kernel
theorem dX12_goThrough_98 : decode cX12_goThrough 98 = .ok (.getfield 156, 3) := by decide +kernel
theorem dX12_goThrough_101 : decode cX12_goThrough 101 = .ok (.iload_n 2, 1) := by decide +kernel
theorem dX12_goThrough_102 : decode cX12_goThrough 102 = .ok (.iconst 0, 1) := by decide +kernel
theorem dX12_goThrough_103 : decode cX12_goThrough 103 = .ok (.iastore, 1) := by decide +kernel
theorem dX12_goThrough_104 : decode cX12_goThrough 104 = .ok (.iinc 2 1, 3) := by decide +kernel
theorem dX12_goThrough_107 : decode cX12_goThrough 107 = .ok (.goto (-51), 3) := by decide +kernel
theorem dX12_goThrough_110 : decode cX12_goThrough 110 = .ok (.iconst 0, 1) := by decide +kernel
theorem dX12_goThrough_111 : decode cX12_goThrough 111 = .ok (.istore_n 2, 1) := by decide +kernel
theorem dX12_goThrough_112 : decode cX12_goThrough 112 = .ok (.iload_n 2, 1) := by decide +kernel
theorem dX12_goThrough_113 : decode cX12_goThrough 113 = .ok (.aload_n 0, 1) := by decide +kernel
theorem dX12_goThrough_114 : decode cX12_goThrough 114 = .ok (.getfield 269, 3) := by decide +kernel
theorem dX12_goThrough_117 : decode cX12_goThrough 117 = .ok (.if_icmp .ge 16, 3) := by decide +kernel
theorem dX12_goThrough_120 : decode cX12_goThrough 120 = .ok (.aload_n 0, 1) := by decide +kernel
theorem dX12_goThrough_121 : decode cX12_goThrough 121 = .ok (.getfield 171, 3) := by decide +kernel
theorem dX12_goThrough_124 : decode cX12_goThrough 124 = .ok (.iload_n 2, 1) := by decide +kernel
theorem dX12_goThrough_125 : decode cX12_goThrough 125 = .ok (.iconst (-1), 1) := by decide +kernel
theorem dX12_goThrough_126 : decode cX12_goThrough 126 = .ok (.iastore, 1) := by decide +kernel
theorem dX12_goThrough_127 : decode cX12_goThrough 127 = .ok (.iinc 2 1, 3) := by decide +kernel
theorem dX12_goThrough_130 : decode cX12_goThrough 130 = .ok (.goto (-18), 3) := by decide +kernel
theorem dX12_goThrough_133 : decode cX12_goThrough 133 = .ok (.aload_n 0, 1) := by decide +kernel
theorem dX12_goThrough_134 : decode cX12_goThrough 134 = .ok (.invokevirtual 462, 3) := by decide +kernel
theorem dX12_goThrough_137 : decode cX12_goThrough 137 = .ok (.aload_n 0, 1) := by decide +kernel
theorem dX12_goThrough_138 : decode cX12_goThrough 138 = .ok (.iconst 0, 1) := by decide +kernel
theorem dX12_goThrough_139 : decode cX12_goThrough 139 = .ok (.putfield 443, 3) := by decide +kernel
theorem dX12_goThrough_142 : decode cX12_goThrough 142 = .ok (.aload_n 0, 1) := by decide +kernel
theorem dX12_goThrough_143 : decode cX12_goThrough 143 = .ok (.getfield 443, 3) := by decide +kernel
theorem dX12_goThrough_146 : decode cX12_goThrough 146 = .ok (.sipush 839, 3) := by decide +kernel
theorem dX12_goThrough_149 : decode cX12_goThrough 149 = .ok (.if_icmp .gt 20, 3) := by decide +kernel
theorem dX12_goThrough_152 : decode cX12_goThrough 152 = .ok (.aload_n 0, 1) := by decide +kernel
theorem dX12_goThrough_153 : decode cX12_goThrough 153 = .ok (.invokevirtual 465, 3) := by decide +kernel
theorem dX12_goThrough_156 : decode cX12_goThrough 156 = .ok (.aload_n 0, 1) := by decide +kernel
theorem dX12_goThrough_157 : decode cX12_goThrough 157 = .ok (.dup, 1) := by decide +kernel
theorem dX12_goThrough_158 : decode cX12_goThrough 158 = .ok (.getfield 443, 3) := by decide +kernel
theorem dX12_goThrough_161 : decode cX12_goThrough 161 = .ok (.iconst 1, 1) := by decide +kernel
theorem dX12_goThrough_162 : decode cX12_goThrough 162 = .ok (.iadd, 1) := by decide +kernel
theorem dX12_goThrough_163 : decode cX12_goThrough 163 = .ok (.putfield 443, 3) := by decide +kernel
theorem dX12_goThrough_166 : decode cX12_goThrough 166 = .ok (.goto (-24), 3) := by decide +kernel
theorem dX12_goThrough_169 : decode cX12_goThrough 169 = .ok (.aload_n 0, 1) := by decide +kernel
theorem dX12_goThrough_170 : decode cX12_goThrough 170 = .ok (.invokevirtual 403, 3) := by decide +kernel
theorem dX12_goThrough_173 : decode cX12_goThrough 173 = .ok (.istore_n 2, 1) := by decide +kernel
theorem dX12_goThrough_174 : decode cX12_goThrough 174 = .ok (.iconst 0, 1) := by decide +kernel
theorem dX12_goThrough_175 : decode cX12_goThrough 175 = .ok (.istore_n 3, 1) := by decide +kernel
theorem dX12_goThrough_176 : decode cX12_goThrough 176 = .ok (.iload_n 3, 1) := by decide +kernel
theorem dX12_goThrough_177 : decode cX12_goThrough 177 = .ok (.aload_n 0, 1) := by decide +kernel
theorem dX12_goThrough_178 : decode cX12_goThrough 178 = .ok (.getfield 254, 3) := by decide +kernel
theorem dX12_goThrough_181 : decode cX12_goThrough 181 = .ok (.if_icmp .ge 143, 3) := by decide +kernel
theorem dX12_goThrough_184 : decode cX12_goThrough 184 = .ok (.aload_n 0, 1) := by decide +kernel
theorem dX12_goThrough_185 : decode cX12_goThrough 185 = .ok (.getfield 150, 3) := by decide +kernel
theorem dX12_goThrough_188 : decode cX12_goThrough 188 = .ok (.iload_n 3, 1) := by decide +kernel
theorem dX12_goThrough_189 : decode cX12_goThrough 189 = .ok (.aload_n 0, 1) := by decide +kernel
theorem dX12_goThrough_190 : decode cX12_goThrough 190 = .ok (.getfield 147, 3) := by decide +kernel
theorem dX12_goThrough_193 : decode cX12_goThrough 193 = .ok (.iload_n 3, 1) := by decide +kernel
theorem dX12_goThrough_194 : decode cX12_goThrough 194 = .ok (.iaload, 1) := by decide +kernel
theorem dX12_goThrough_195 : decode cX12_goThrough 195 = .ok (.iconst (-1), 1) := by decide +kernel
theorem dX12_goThrough_196 : decode cX12_goThrough 196 = .ok (.if_icmp .ne 16, 3) := by decide +kernel
theorem dX12_goThrough_199 : decode cX12_goThrough 199 = .ok (.sipush 840, 3) := by decide +kernel
theorem dX12_goThrough_202 : decode cX12_goThrough 202 = .ok (.aload_n 0, 1) := by decide +kernel
theorem dX12_goThrough_203 : decode cX12_goThrough 203 = .ok (.getfield 31, 3) := by decide +kernel
theorem dX12_goThrough_206 : decode cX12_goThrough 206 = .ok (.iload_n 3, 1) := by decide +kernel
theorem dX12_goThrough_207 : decode cX12_goThrough 207 = .ok (.iaload, 1) := by decide +kernel
theorem dX12_goThrough_208 : decode cX12_goThrough 208 = .ok (.isub, 1) := by decide +kernel
theorem dX12_goThrough_209 : decode cX12_goThrough 209 = .ok (.goto 35, 3) := by decide +kernel
theorem dX12_goThrough_212 : decode cX12_goThrough 212 = .ok (.aload_n 0, 1) := by decide +kernel
theorem dX12_goThrough_213 : decode cX12_goThrough 213 = .ok (.getfield 147, 3) := by decide +kernel
theorem dX12_goThrough_216 : decode cX12_goThrough 216 = .ok (.iload_n 3, 1) := by decide +kernel
theorem dX12_goThrough_217 : decode cX12_goThrough 217 = .ok (.iaload, 1) := by decide +kernel
theorem dX12_goThrough_218 : decode cX12_goThrough 218 = .ok (.aload_n 0, 1) := by decide +kernel
theorem dX12_goThrough_219 : decode cX12_goThrough 219 = .ok (.getfield 31, 3) := by decide +kernel
theorem dX12_goThrough_222 : decode cX12_goThrough 222 = .ok (.iload_n 3, 1) := by decide +kernel
theorem dX12_goThrough_223 : decode cX12_goThrough 223 = .ok (.iaload, 1) := by decide +kernel
theorem dX12_goThrough_224 : decode cX12_goThrough 224 = .ok (.if_icmp .le 19, 3) := by decide +kernel
theorem dX12_goThrough_227 : decode cX12_goThrough 227 = .ok (.aload_n 0, 1) := by decide +kernel
theorem dX12_goThrough_228 : decode cX12_goThrough 228 = .ok (.getfield 147, 3) := by decide +kernel
theorem dX12_goThrough_231 : decode cX12_goThrough 231 = .ok (.iload_n 3, 1) := by decide +kernel
theorem dX12_goThrough_232 : decode cX12_goThrough 232 = .ok (.iaload, 1) := by decide +kernel
theorem dX12_goThrough_233 : decode cX12_goThrough 233 = .ok (.aload_n 0, 1) := by decide +kernel
theorem dX12_goThrough_234 : decode cX12_goThrough 234 = .ok (.getfield 31, 3) := by decide +kernel
theorem dX12_goThrough_237 : decode cX12_goThrough 237 = .ok (.iload_n 3, 1) := by decide +kernel
theorem dX12_goThrough_238 : decode cX12_goThrough 238 = .ok (.iaload, 1) := by decide +kernel
theorem dX12_goThrough_239 : decode cX12_goThrough 239 = .ok (.isub, 1) := by decide +kernel
theorem dX12_goThrough_240 : decode cX12_goThrough 240 = .ok (.goto 4, 3) := by decide +kernel
theorem dX12_goThrough_243 : decode cX12_goThrough 243 = .ok (.iconst 0, 1) := by decide +kernel
theorem dX12_goThrough_244 : decode cX12_goThrough 244 = .ok (.iastore, 1) := by decide +kernel
theorem dX12_goThrough_245 : decode cX12_goThrough 245 = .ok (.aload_n 0, 1) := by decide +kernel
theorem dX12_goThrough_246 : decode cX12_goThrough 246 = .ok (.getfield 25, 3) := by decide +kernel
theorem dX12_goThrough_249 : decode cX12_goThrough 249 = .ok (.iload_n 3, 1) := by decide +kernel
theorem dX12_goThrough_250 : decode cX12_goThrough 250 = .ok (.iaload, 1) := by decide +kernel
theorem dX12_goThrough_251 : decode cX12_goThrough 251 = .ok (.iload_n 2, 1) := by decide +kernel
theorem dX12_goThrough_252 : decode cX12_goThrough 252 = .ok (.iconst (-1), 1) := by decide +kernel
theorem dX12_goThrough_253 : decode cX12_goThrough 253 = .ok (.if_icmp .ne 7, 3) := by decide +kernel
theorem dX12_goThrough_256 : decode cX12_goThrough 256 = .ok (.iconst 0, 1) := by decide +kernel
theorem dX12_goThrough_257 : decode cX12_goThrough 257 = .ok (.goto 9, 3) := by decide +kernel
theorem dX12_goThrough_260 : decode cX12_goThrough 260 = .ok (.aload_n 0, 1) := by decide +kernel
theorem dX12_goThrough_261 : decode cX12_goThrough 261 = .ok (.getfield 91, 3) := by decide +kernel
theorem dX12_goThrough_264 : decode cX12_goThrough 264 = .ok (.iload_n 2, 1) := by decide +kernel
theorem dX12_goThrough_265 : decode cX12_goThrough 265 = .ok (.iaload, 1) := by decide +kernel
theorem dX12_goThrough_266 : decode cX12_goThrough 266 = .ok (.aload_n 0, 1) := by decide +kernel
theorem dX12_goThrough_267 : decode cX12_goThrough 267 = .ok (.getfield 150, 3) := by decide +kernel
theorem dX12_goThrough_270 : decode cX12_goThrough 270 = .ok (.iload_n 3, 1) := by decide +kernel
theorem dX12_goThrough_271 : decode cX12_goThrough 271 = .ok (.iaload, 1) := by decide +kernel
theorem dX12_goThrough_272 : decode cX12_goThrough 272 = .ok (.bipush 10, 2) := by decide +kernel
theorem dX12_goThrough_274 : decode cX12_goThrough 274 = .ok (.idiv, 1) := by decide +kernel
theorem dX12_goThrough_275 : decode cX12_goThrough 275 = .ok (.imul, 1) := by decide +kernel
theorem dX12_goThrough_276 : decode cX12_goThrough 276 = .ok (.isub, 1) := by decide +kernel
theorem dX12_goThrough_277 : decode cX12_goThrough 277 = .ok (.istore 4, 2) := by decide +kernel
theorem dX12_goThrough_279 : decode cX12_goThrough 279 = .ok (.aload_n 0, 1) := by decide +kernel
theorem dX12_goThrough_280 : decode cX12_goThrough 280 = .ok (.getfield 40, 3) := by decide +kernel
theorem dX12_goThrough_283 : decode cX12_goThrough 283 = .ok (.iload_n 3, 1) := by decide +kernel
theorem dX12_goThrough_284 : decode cX12_goThrough 284 = .ok (.dup2, 1) := by decide +kernel
theorem dX12_goThrough_285 : decode cX12_goThrough 285 = .ok (.iaload, 1) := by decide +kernel
theorem dX12_goThrough_286 : decode cX12_goThrough 286 = .ok (.iload 4, 2) := by decide +kernel
theorem dX12_goThrough_288 : decode cX12_goThrough 288 = .ok (.ifCond .ge 7, 3) := by decide +kernel
theorem dX12_goThrough_291 : decode cX12_goThrough 291 = .ok (.iconst 0, 1) := by decide +kernel
theorem dX12_goThrough_292 : decode cX12_goThrough 292 = .ok (.goto 5, 3) := by decide +kernel
theorem dX12_goThrough_295 : decode cX12_goThrough 295 = .ok (.iload 4, 2) := by decide +kernel
theorem dX12_goThrough_297 : decode cX12_goThrough 297 = .ok (.iadd, 1) := by decide +kernel
theorem dX12_goThrough_298 : decode cX12_goThrough 298 = .ok (.iastore, 1) := by decide +kernel
theorem dX12_goThrough_299 : decode cX12_goThrough 299 = .ok (.aload_n 0, 1) := by decide +kernel
theorem dX12_goThrough_300 : decode cX12_goThrough 300 = .ok (.getfield 40, 3) := by decide +kernel
theorem dX12_goThrough_303 : decode cX12_goThrough 303 = .ok (.iload_n 3, 1) := by decide +kernel
theorem dX12_goThrough_304 : decode cX12_goThrough 304 = .ok (.iaload, 1) := by decide +kernel
theorem dX12_goThrough_305 : decode cX12_goThrough 305 = .ok (.ldc 225, 2) := by decide +kernel
theorem dX12_goThrough_307 : decode cX12_goThrough 307 = .ok (.if_icmp .le 11, 3) := by decide +kernel
theorem dX12_goThrough_310 : decode cX12_goThrough 310 = .ok (.aload_n 0, 1) := by decide +kernel
theorem dX12_goThrough_311 : decode cX12_goThrough 311 = .ok (.getfield 40, 3) := by decide +kernel
theorem dX12_goThrough_314 : decode cX12_goThrough 314 = .ok (.iload_n 3, 1) := by decide +kernel
theorem dX12_goThrough_315 : decode cX12_goThrough 315 = .ok (.ldc 225, 2) := by decide +kernel
theorem dX12_goThrough_317 : decode cX12_goThrough 317 = .ok (.iastore, 1) := by decide +kernel
theorem dX12_goThrough_318 : decode cX12_goThrough 318 = .ok (.iinc 3 1, 3) := by decide +kernel
theorem dX12_goThrough_321 : decode cX12_goThrough 321 = .ok (.goto (-145), 3) := by decide +kernel
theorem dX12_goThrough_324 : decode cX12_goThrough 324 = .ok (.aload_n 0, 1) := by decide +kernel
theorem dX12_goThrough_325 : decode cX12_goThrough 325 = .ok (.iconst (-1), 1) := by decide +kernel
theorem dX12_goThrough_326 : decode cX12_goThrough 326 = .ok (.putfield 423, 3) := by decide +kernel
theorem dX12_goThrough_329 : decode cX12_goThrough 329 = .ok (.return_, 1) := by decide +kernel
theorem dX12_keep_0 : decode cX12_keep 0 = .ok (.iconst 0, 1) := by decide +kernel
theorem dX12_keep_1 : decode cX12_keep 1 = .ok (.istore_n 3, 1) := by decide +kernel
theorem dX12_keep_2 : decode cX12_keep 2 = .ok (.iload_n 3, 1) := by decide +kernel
theorem dX12_keep_3 : decode cX12_keep 3 = .ok (.iload_n 2, 1) := by decide +kernel
theorem dX12_keep_4 : decode cX12_keep 4 = .ok (.if_icmp .ge 31, 3) := by decide +kernel
theorem dX12_keep_7 : decode cX12_keep 7 = .ok (.aload_n 0, 1) := by decide +kernel
theorem dX12_keep_8 : decode cX12_keep 8 = .ok (.getfield 186, 3) := by decide +kernel
theorem dX12_keep_11 : decode cX12_keep 11 = .ok (.aload_n 0, 1) := by decide +kernel
theorem dX12_keep_12 : decode cX12_keep 12 = .ok (.getfield 474, 3) := by decide +kernel
theorem dX12_keep_15 : decode cX12_keep 15 = .ok (.aload_n 1, 1) := by decide +kernel
theorem dX12_keep_16 : decode cX12_keep 16 = .ok (.iload_n 3, 1) := by decide +kernel
theorem dX12_keep_17 : decode cX12_keep 17 = .ok (.iaload, 1) := by decide +kernel
theorem dX12_keep_18 : decode cX12_keep 18 = .ok (.iastore, 1) := by decide +kernel
theorem dX12_keep_19 : decode cX12_keep 19 = .ok (.aload_n 0, 1) := by decide +kernel
theorem dX12_keep_20 : decode cX12_keep 20 = .ok (.dup, 1) := by decide +kernel
theorem dX12_keep_21 : decode cX12_keep 21 = .ok (.getfield 474, 3) := by decide +kernel
theorem dX12_keep_24 : decode cX12_keep 24 = .ok (.iconst 1, 1) := by decide +kernel
theorem dX12_keep_25 : decode cX12_keep 25 = .ok (.iadd, 1) := by decide +kernel
theorem dX12_keep_26 : decode cX12_keep 26 = .ok (.putfield 474, 3) := by decide +kernel
theorem dX12_keep_29 : decode cX12_keep 29 = .ok (.iinc 3 1, 3) := by decide +kernel
theorem dX12_keep_32 : decode cX12_keep 32 = .ok (.goto (-30), 3) := by decide +kernel
theorem dX12_keep_35 : decode cX12_keep 35 = .ok (.return_, 1) := by decide +kernel
theorem dX12_leave_0 : decode cX12_leave 0 = .ok (.aload_n 0, 1) := by decide +kernel
theorem dX12_leave_1 : decode cX12_leave 1 = .ok (.getfield 67, 3) := by decide +kernel
theorem dX12_leave_4 : decode cX12_leave 4 = .ok (.iload_n 1, 1) := by decide +kernel
theorem dX12_leave_5 : decode cX12_leave 5 = .ok (.iaload, 1) := by decide +kernel
theorem dX12_leave_6 : decode cX12_leave 6 = .ok (.istore_n 2, 1) := by decide +kernel
theorem dX12_leave_7 : decode cX12_leave 7 = .ok (.aload_n 0, 1) := by decide +kernel
theorem dX12_leave_8 : decode cX12_leave 8 = .ok (.getfield 171, 3) := by decide +kernel
theorem dX12_leave_11 : decode cX12_leave 11 = .ok (.iload_n 1, 1) := by decide +kernel
theorem dX12_leave_12 : decode cX12_leave 12 = .ok (.bipush (-2), 2) := by decide +kernel
theorem dX12_leave_14 : decode cX12_leave 14 = .ok (.iastore, 1) := by decide +kernel
theorem dX12_leave_15 : decode cX12_leave 15 = .ok (.aload_n 0, 1) := by decide +kernel
theorem dX12_leave_16 : decode cX12_leave 16 = .ok (.getfield 168, 3) := by decide +kernel
theorem dX12_leave_19 : decode cX12_leave 19 = .ok (.iload_n 2, 1) := by decide +kernel
theorem dX12_leave_20 : decode cX12_leave 20 = .ok (.iaload, 1) := by decide +kernel
theorem dX12_leave_21 : decode cX12_leave 21 = .ok (.iconst 1, 1) := by decide +kernel
theorem dX12_leave_22 : decode cX12_leave 22 = .ok (.if_icmp .eq 54, 3) := by decide +kernel
theorem dX12_leave_25 : decode cX12_leave 25 = .ok (.aload_n 0, 1) := by decide +kernel
theorem dX12_leave_26 : decode cX12_leave 26 = .ok (.getfield 162, 3) := by decide +kernel
theorem dX12_leave_29 : decode cX12_leave 29 = .ok (.iload_n 2, 1) := by decide +kernel
theorem dX12_leave_30 : decode cX12_leave 30 = .ok (.iaload, 1) := by decide +kernel
theorem dX12_leave_31 : decode cX12_leave 31 = .ok (.iconst (-1), 1) := by decide +kernel
theorem dX12_leave_32 : decode cX12_leave 32 = .ok (.if_icmp .ne 44, 3) := by decide +kernel
theorem dX12_leave_35 : decode cX12_leave 35 = .ok (.aload_n 0, 1) := by decide +kernel
theorem dX12_leave_36 : decode cX12_leave 36 = .ok (.getfield 159, 3) := by decide +kernel
theorem dX12_leave_39 : decode cX12_leave 39 = .ok (.iload_n 2, 1) := by decide +kernel
theorem dX12_leave_40 : decode cX12_leave 40 = .ok (.iaload, 1) := by decide +kernel
theorem dX12_leave_41 : decode cX12_leave 41 = .ok (.aload_n 0, 1) := by decide +kernel
theorem dX12_leave_42 : decode cX12_leave 42 = .ok (.getfield 70, 3) := by decide +kernel
theorem dX12_leave_45 : decode cX12_leave 45 = .ok (.iload_n 1, 1) := by decide +kernel
theorem dX12_leave_46 : decode cX12_leave 46 = .ok (.iaload, 1) := by decide +kernel
theorem dX12_leave_47 : decode cX12_leave 47 = .ok (.if_icmp .ne 29, 3) := by decide +kernel
theorem dX12_leave_50 : decode cX12_leave 50 = .ok (.aload_n 0, 1) := by decide +kernel
theorem dX12_leave_51 : decode cX12_leave 51 = .ok (.iload_n 1, 1) := by decide +kernel
theorem dX12_leave_52 : decode cX12_leave 52 = .ok (.invokevirtual 420, 3) := by decide +kernel
theorem dX12_leave_55 : decode cX12_leave 55 = .ok (.ldc 225, 2) := by decide +kernel
theorem dX12_leave_57 : decode cX12_leave 57 = .ok (.if_icmp .ge 19, 3) := by decide +kernel
theorem dX12_leave_60 : decode cX12_leave 60 = .ok (.aload_n 0, 1) := by decide +kernel
theorem dX12_leave_61 : decode cX12_leave 61 = .ok (.iload_n 1, 1) := by decide +kernel
theorem dX12_leave_62 : decode cX12_leave 62 = .ok (.iconst 0, 1) := by decide +kernel
theorem dX12_leave_63 : decode cX12_leave 63 = .ok (.iconst 0, 1) := by decide +kernel
theorem dX12_leave_64 : decode cX12_leave 64 = .ok (.aload_n 0, 1) := by decide +kernel
theorem dX12_leave_65 : decode cX12_leave 65 = .ok (.getfield 165, 3) := by decide +kernel
theorem dX12_leave_68 : decode cX12_leave 68 = .ok (.iload_n 2, 1) := by decide +kernel
theorem dX12_leave_69 : decode cX12_leave 69 = .ok (.iaload, 1) := by decide +kernel
theorem dX12_leave_70 : decode cX12_leave 70 = .ok (.invokevirtual 413, 3) := by decide +kernel
theorem dX12_leave_73 : decode cX12_leave 73 = .ok (.ifCond .ne 4, 3) := by decide +kernel
theorem dX12_leave_76 : decode cX12_leave 76 = .ok (.return_, 1) := by decide +kernel
theorem dX12_leave_77 : decode cX12_leave 77 = .ok (.aload_n 0, 1) := by decide +kernel
theorem dX12_leave_78 : decode cX12_leave 78 = .ok (.iload_n 1, 1) := by decide +kernel
theorem dX12_leave_79 : decode cX12_leave 79 = .ok (.iconst 5, 1) := by decide +kernel
theorem dX12_leave_80 : decode cX12_leave 80 = .ok (.iconst 0, 1) := by decide +kernel
theorem dX12_leave_81 : decode cX12_leave 81 = .ok (.aload_n 0, 1) := by decide +kernel
theorem dX12_leave_82 : decode cX12_leave 82 = .ok (.getfield 165, 3) := by decide +kernel
theorem dX12_leave_85 : decode cX12_leave 85 = .ok (.iload_n 2, 1) := by decide +kernel
theorem dX12_leave_86 : decode cX12_leave 86 = .ok (.iaload, 1) := by decide +kernel
theorem dX12_leave_87 : decode cX12_leave 87 = .ok (.invokevirtual 413, 3) := by decide +kernel
theorem dX12_leave_90 : decode cX12_leave 90 = .ok (.istore_n 3, 1) := by decide +kernel
theorem dX12_leave_91 : decode cX12_leave 91 = .ok (.iload_n 3, 1) := by decide +kernel
theorem dX12_leave_92 : decode cX12_leave 92 = .ok (.aload_n 0, 1) := by decide +kernel
theorem dX12_leave_93 : decode cX12_leave 93 = .ok (.getfield 272, 3) := by decide +kernel
theorem dX12_leave_96 : decode cX12_leave 96 = .ok (.if_icmp .le 4, 3) := by decide +kernel
theorem dX12_leave_99 : decode cX12_leave 99 = .ok (.return_, 1) := by decide +kernel
theorem dX12_leave_100 : decode cX12_leave 100 = .ok (.aload_n 0, 1) := by decide +kernel
theorem dX12_leave_101 : decode cX12_leave 101 = .ok (.dup, 1) := by decide +kernel
theorem dX12_leave_102 : decode cX12_leave 102 = .ok (.getfield 272, 3) := by decide +kernel
theorem dX12_leave_105 : decode cX12_leave 105 = .ok (.iload_n 3, 1) := by decide +kernel
theorem dX12_leave_106 : decode cX12_leave 106 = .ok (.isub, 1) := by decide +kernel
theorem dX12_leave_107 : decode cX12_leave 107 = .ok (.putfield 272, 3) := by decide +kernel
theorem dX12_leave_110 : decode cX12_leave 110 = .ok (.aload_n 0, 1) := by decide +kernel
theorem dX12_leave_111 : decode cX12_leave 111 = .ok (.iload_n 1, 1) := by decide +kernel
theorem dX12_leave_112 : decode cX12_leave 112 = .ok (.iconst 2, 1) := by decide +kernel
theorem dX12_leave_113 : decode cX12_leave 113 = .ok (.iconst 0, 1) := by decide +kernel
theorem dX12_leave_114 : decode cX12_leave 114 = .ok (.aload_n 0, 1) := by decide +kernel
theorem dX12_leave_115 : decode cX12_leave 115 = .ok (.getfield 165, 3) := by decide +kernel
theorem dX12_leave_118 : decode cX12_leave 118 = .ok (.iload_n 2, 1) := by decide +kernel
theorem dX12_leave_119 : decode cX12_leave 119 = .ok (.iaload, 1) := by decide +kernel
theorem dX12_leave_120 : decode cX12_leave 120 = .ok (.invokevirtual 413, 3) := by decide +kernel
theorem dX12_leave_123 : decode cX12_leave 123 = .ok (.istore 4, 2) := by decide +kernel
theorem dX12_leave_125 : decode cX12_leave 125 = .ok (.iconst 0, 1) := by decide +kernel
theorem dX12_leave_126 : decode cX12_leave 126 = .ok (.istore 5, 2) := by decide +kernel
theorem dX12_leave_128 : decode cX12_leave 128 = .ok (.iconst 0, 1) := by decide +kernel
theorem dX12_leave_129 : decode cX12_leave 129 = .ok (.istore 6, 2) := by decide +kernel
theorem dX12_leave_131 : decode cX12_leave 131 = .ok (.iload 6, 2) := by decide +kernel
theorem dX12_leave_133 : decode cX12_leave 133 = .ok (.sipush 719, 3) := by decide +kernel
theorem dX12_leave_136 : decode cX12_leave 136 = .ok (.if_icmp .gt 166, 3) := by decide +kernel
theorem dX12_leave_139 : decode cX12_leave 139 = .ok (.iload 5, 2) := by decide +kernel
theorem dX12_leave_141 : decode cX12_leave 141 = .ok (.aload_n 0, 1) := by decide +kernel
theorem dX12_leave_142 : decode cX12_leave 142 = .ok (.getfield 58, 3) := by decide +kernel
theorem dX12_leave_145 : decode cX12_leave 145 = .ok (.iload_n 2, 1) := by decide +kernel
theorem dX12_leave_146 : decode cX12_leave 146 = .ok (.iaload, 1) := by decide +kernel
theorem dX12_leave_147 : decode cX12_leave 147 = .ok (.if_icmp .ge 155, 3) := by decide +kernel
theorem dX12_leave_150 : decode cX12_leave 150 = .ok (.iconst 0, 1) := by decide +kernel
theorem dX12_leave_151 : decode cX12_leave 151 = .ok (.istore 7, 2) := by decide +kernel
theorem dX12_leave_153 : decode cX12_leave 153 = .ok (.iload 7, 2) := by decide +kernel
theorem dX12_leave_155 : decode cX12_leave 155 = .ok (.aload_n 0, 1) := by decide +kernel
theorem dX12_leave_156 : decode cX12_leave 156 = .ok (.getfield 254, 3) := by decide +kernel
theorem dX12_leave_159 : decode cX12_leave 159 = .ok (.if_icmp .ge 137, 3) := by decide +kernel
theorem dX12_leave_162 : decode cX12_leave 162 = .ok (.iload 5, 2) := by decide +kernel
theorem dX12_leave_164 : decode cX12_leave 164 = .ok (.aload_n 0, 1) := by decide +kernel
theorem dX12_leave_165 : decode cX12_leave 165 = .ok (.getfield 58, 3) := by decide +kernel
theorem dX12_leave_168 : decode cX12_leave 168 = .ok (.iload_n 2, 1) := by decide +kernel
theorem dX12_leave_169 : decode cX12_leave 169 = .ok (.iaload, 1) := by decide +kernel
theorem dX12_leave_170 : decode cX12_leave 170 = .ok (.if_icmp .ge 126, 3) := by decide +kernel
theorem dX12_leave_173 : decode cX12_leave 173 = .ok (.aload_n 0, 1) := by decide +kernel
theorem dX12_leave_174 : decode cX12_leave 174 = .ok (.getfield 31, 3) := by decide +kernel
theorem dX12_leave_177 : decode cX12_leave 177 = .ok (.iload 7, 2) := by decide +kernel
theorem dX12_leave_179 : decode cX12_leave 179 = .ok (.iaload, 1) := by decide +kernel
theorem dX12_leave_180 : decode cX12_leave 180 = .ok (.iload 6, 2) := by decide +kernel
theorem dX12_leave_182 : decode cX12_leave 182 = .ok (.if_icmp .ne 108, 3) := by decide +kernel
theorem dX12_leave_185 : decode cX12_leave 185 = .ok (.aload_n 0, 1) := by decide +kernel
theorem dX12_leave_186 : decode cX12_leave 186 = .ok (.getfield 135, 3) := by decide +kernel
theorem dX12_leave_189 : decode cX12_leave 189 = .ok (.iload 7, 2) := by decide +kernel
theorem dX12_leave_191 : decode cX12_leave 191 = .ok (.iaload, 1) := by decide +kernel
theorem dX12_leave_192 : decode cX12_leave 192 = .ok (.iconst 2, 1) := by decide +kernel
theorem dX12_leave_193 : decode cX12_leave 193 = .ok (.if_icmp .ne 97, 3) := by decide +kernel
theorem dX12_leave_196 : decode cX12_leave 196 = .ok (.aload_n 0, 1) := by decide +kernel
theorem dX12_leave_197 : decode cX12_leave 197 = .ok (.getfield 144, 3) := by decide +kernel
theorem dX12_leave_200 : decode cX12_leave 200 = .ok (.iload 7, 2) := by decide +kernel
theorem dX12_leave_202 : decode cX12_leave 202 = .ok (.iaload, 1) := by decide +kernel
theorem dX12_leave_203 : decode cX12_leave 203 = .ok (.iload_n 1, 1) := by decide +kernel
theorem dX12_leave_204 : decode cX12_leave 204 = .ok (.if_icmp .ne 86, 3) := by decide +kernel
theorem dX12_leave_207 : decode cX12_leave 207 = .ok (.aload_n 0, 1) := by decide +kernel
theorem dX12_leave_208 : decode cX12_leave 208 = .ok (.getfield 40, 3) := by decide +kernel
theorem dX12_leave_211 : decode cX12_leave 211 = .ok (.iload 7, 2) := by decide +kernel
theorem dX12_leave_213 : decode cX12_leave 213 = .ok (.iaload, 1) := by decide +kernel
theorem dX12_leave_214 : decode cX12_leave 214 = .ok (.iload 4, 2) := by decide +kernel
theorem dX12_leave_216 : decode cX12_leave 216 = .ok (.if_icmp .ge 6, 3) := by decide +kernel
theorem dX12_leave_219 : decode cX12_leave 219 = .ok (.goto 71, 3) := by decide +kernel
theorem dX12_leave_222 : decode cX12_leave 222 = .ok (.aload_n 0, 1) := by decide +kernel
theorem dX12_leave_223 : decode cX12_leave 223 = .ok (.getfield 40, 3) := by decide +kernel
theorem dX12_leave_226 : decode cX12_leave 226 = .ok (.iload 7, 2) := by decide +kernel
theorem dX12_leave_228 : decode cX12_leave 228 = .ok (.dup2, 1) := by decide +kernel
theorem dX12_leave_229 : decode cX12_leave 229 = .ok (.iaload, 1) := by decide +kernel
theorem dX12_leave_230 : decode cX12_leave 230 = .ok (.iload 4, 2) := by decide +kernel
theorem dX12_leave_232 : decode cX12_leave 232 = .ok (.isub, 1) := by decide +kernel
theorem dX12_leave_233 : decode cX12_leave 233 = .ok (.iastore, 1) := by decide +kernel
theorem dX12_leave_234 : decode cX12_leave 234 = .ok (.aload_n 0, 1) := by decide +kernel
theorem dX12_leave_235 : decode cX12_leave 235 = .ok (.getfield 52, 3) := by decide +kernel
theorem dX12_leave_238 : decode cX12_leave 238 = .ok (.iload_n 2, 1) := by decide +kernel
theorem dX12_leave_239 : decode cX12_leave 239 = .ok (.iaload, 1) := by decide +kernel
theorem dX12_leave_240 : decode cX12_leave 240 = .ok (.iconst 2, 1) := by decide +kernel
theorem dX12_leave_241 : decode cX12_leave 241 = .ok (.if_icmp .ne 24, 3) := by decide +kernel
theorem dX12_leave_244 : decode cX12_leave 244 = .ok (.aload_n 0, 1) := by decide +kernel
theorem dX12_leave_245 : decode cX12_leave 245 = .ok (.getfield 64, 3) := by decide +kernel
theorem dX12_leave_248 : decode cX12_leave 248 = .ok (.iload_n 2, 1) := by decide +kernel
theorem dX12_leave_249 : decode cX12_leave 249 = .ok (.aload_n 0, 1) := by decide +kernel
theorem dX12_leave_250 : decode cX12_leave 250 = .ok (.getfield 64, 3) := by decide +kernel
theorem dX12_leave_253 : decode cX12_leave 253 = .ok (.iload_n 2, 1) := by decide +kernel
theorem dX12_leave_254 : decode cX12_leave 254 = .ok (.iaload, 1) := by decide +kernel
theorem dX12_leave_255 : decode cX12_leave 255 = .ok (.iload 4, 2) := by decide +kernel
theorem dX12_leave_257 : decode cX12_leave 257 = .ok (.iadd, 1) := by decide +kernel
theorem dX12_leave_258 : decode cX12_leave 258 = .ok (.invokestatic 275, 3) := by decide +kernel
theorem dX12_leave_261 : decode cX12_leave 261 = .ok (.iastore, 1) := by decide +kernel
theorem dX12_leave_262 : decode cX12_leave 262 = .ok (.goto 17, 3) := by decide +kernel
theorem dX12_leave_265 : decode cX12_leave 265 = .ok (.aload_n 0, 1) := by decide +kernel
theorem dX12_leave_266 : decode cX12_leave 266 = .ok (.aload_n 0, 1) := by decide +kernel
theorem dX12_leave_267 : decode cX12_leave 267 = .ok (.getfield 272, 3) := by decide +kernel
theorem dX12_leave_270 : decode cX12_leave 270 = .ok (.iload 4, 2) := by decide +kernel
theorem dX12_leave_272 : decode cX12_leave 272 = .ok (.iadd, 1) := by decide +kernel
theorem dX12_leave_273 : decode cX12_leave 273 = .ok (.invokestatic 275, 3) := by decide +kernel
theorem dX12_leave_276 : decode cX12_leave 276 = .ok (.putfield 272, 3) := by decide +kernel
theorem dX12_leave_279 : decode cX12_leave 279 = .ok (.aload_n 0, 1) := by decide +kernel
theorem dX12_leave_280 : decode cX12_leave 280 = .ok (.getfield 135, 3) := by decide +kernel
theorem dX12_leave_283 : decode cX12_leave 283 = .ok (.iload 7, 2) := by decide +kernel
theorem dX12_leave_285 : decode cX12_leave 285 = .ok (.iconst 3, 1) := by decide +kernel
theorem dX12_leave_286 : decode cX12_leave 286 = .ok (.iastore, 1) := by decide +kernel
theorem dX12_leave_287 : decode cX12_leave 287 = .ok (.iinc 5 1, 3) := by decide +kernel
theorem dX12_leave_290 : decode cX12_leave 290 = .ok (.iinc 7 1, 3) := by decide +kernel
theorem dX12_leave_293 : decode cX12_leave 293 = .ok (.goto (-140), 3) := by decide +kernel
theorem dX12_leave_296 : decode cX12_leave 296 = .ok (.iinc 6 1, 3) := by decide +kernel
theorem dX12_leave_299 : decode cX12_leave 299 = .ok (.goto (-168), 3) := by decide +kernel
theorem dX12_leave_302 : decode cX12_leave 302 = .ok (.iconst 0, 1) := by decide +kernel
theorem dX12_leave_303 : decode cX12_leave 303 = .ok (.istore 6, 2) := by decide +kernel
theorem dX12_leave_305 : decode cX12_leave 305 = .ok (.aload_n 0, 1) := by decide +kernel
theorem dX12_leave_306 : decode cX12_leave 306 = .ok (.iload_n 1, 1) := by decide +kernel
theorem dX12_leave_307 : decode cX12_leave 307 = .ok (.iconst 1, 1) := by decide +kernel
theorem dX12_leave_308 : decode cX12_leave 308 = .ok (.iload 5, 2) := by decide +kernel
theorem dX12_leave_310 : decode cX12_leave 310 = .ok (.aload_n 0, 1) := by decide +kernel
theorem dX12_leave_311 : decode cX12_leave 311 = .ok (.getfield 165, 3) := by decide +kernel
theorem dX12_leave_314 : decode cX12_leave 314 = .ok (.iload_n 2, 1) := by decide +kernel
theorem dX12_leave_315 : decode cX12_leave 315 = .ok (.iaload, 1) := by decide +kernel
theorem dX12_leave_316 : decode cX12_leave 316 = .ok (.invokevirtual 413, 3) := by decide +kernel
theorem dX12_leave_319 : decode cX12_leave 319 = .ok (.iconst 1, 1) := by decide +kernel
theorem dX12_leave_320 : decode cX12_leave 320 = .ok (.if_icmp .ne 176, 3) := by decide +kernel
theorem dX12_leave_323 : decode cX12_leave 323 = .ok (.aload_n 0, 1) := by decide +kernel
theorem dX12_leave_324 : decode cX12_leave 324 = .ok (.iload_n 1, 1) := by decide +kernel
theorem dX12_leave_325 : decode cX12_leave 325 = .ok (.iconst 4, 1) := by decide +kernel
theorem dX12_leave_326 : decode cX12_leave 326 = .ok (.iload 5, 2) := by decide +kernel
theorem dX12_leave_328 : decode cX12_leave 328 = .ok (.aload_n 0, 1) := by decide +kernel
theorem dX12_leave_329 : decode cX12_leave 329 = .ok (.getfield 165, 3) := by decide +kernel
theorem dX12_leave_332 : decode cX12_leave 332 = .ok (.iload_n 2, 1) := by decide +kernel
theorem dX12_leave_333 : decode cX12_leave 333 = .ok (.iaload, 1) := by decide +kernel
theorem dX12_leave_334 : decode cX12_leave 334 = .ok (.invokevirtual 413, 3) := by decide +kernel
theorem dX12_leave_337 : decode cX12_leave 337 = .ok (.istore 7, 2) := by decide +kernel
theorem dX12_leave_339 : decode cX12_leave 339 = .ok (.aload_n 0, 1) := by decide +kernel
theorem dX12_leave_340 : decode cX12_leave 340 = .ok (.iload_n 1, 1) := by decide +kernel
theorem dX12_leave_341 : decode cX12_leave 341 = .ok (.iconst 3, 1) := by decide +kernel
theorem dX12_leave_342 : decode cX12_leave 342 = .ok (.iload 5, 2) := by decide +kernel
theorem dX12_leave_344 : decode cX12_leave 344 = .ok (.aload_n 0, 1) := by decide +kernel
theorem dX12_leave_345 : decode cX12_leave 345 = .ok (.getfield 165, 3) := by decide +kernel
theorem dX12_leave_348 : decode cX12_leave 348 = .ok (.iload_n 2, 1) := by decide +kernel
theorem dX12_leave_349 : decode cX12_leave 349 = .ok (.iaload, 1) := by decide +kernel
theorem dX12_leave_350 : decode cX12_leave 350 = .ok (.invokevirtual 413, 3) := by decide +kernel
theorem dX12_leave_353 : decode cX12_leave 353 = .ok (.istore 6, 2) := by decide +kernel
theorem dX12_leave_355 : decode cX12_leave 355 = .ok (.aload_n 0, 1) := by decide +kernel
theorem dX12_leave_356 : decode cX12_leave 356 = .ok (.getfield 165, 3) := by decide +kernel
theorem dX12_leave_359 : decode cX12_leave 359 = .ok (.iload_n 2, 1) := by decide +kernel
theorem dX12_leave_360 : decode cX12_leave 360 = .ok (.dup2, 1) := by decide +kernel
theorem dX12_leave_361 : decode cX12_leave 361 = .ok (.iaload, 1) := by decide +kernel
theorem dX12_leave_362 : decode cX12_leave 362 = .ok (.iconst 1, 1) := by decide +kernel
theorem dX12_leave_363 : decode cX12_leave 363 = .ok (.iadd, 1) := by decide +kernel
theorem dX12_leave_364 : decode cX12_leave 364 = .ok (.iastore, 1) := by decide +kernel
theorem dX12_leave_365 : decode cX12_leave 365 = .ok (.aload_n 0, 1) := by decide +kernel
theorem dX12_leave_366 : decode cX12_leave 366 = .ok (.getfield 52, 3) := by decide +kernel
theorem dX12_leave_369 : decode cX12_leave 369 = .ok (.iload_n 2, 1) := by decide +kernel
theorem dX12_leave_370 : decode cX12_leave 370 = .ok (.iaload, 1) := by decide +kernel
theorem dX12_leave_371 : decode cX12_leave 371 = .ok (.iconst 2, 1) := by decide +kernel
theorem dX12_leave_372 : decode cX12_leave 372 = .ok (.if_icmp .ne 12, 3) := by decide +kernel
theorem dX12_leave_375 : decode cX12_leave 375 = .ok (.aload_n 0, 1) := by decide +kernel
theorem dX12_leave_376 : decode cX12_leave 376 = .ok (.getfield 64, 3) := by decide +kernel
theorem dX12_leave_379 : decode cX12_leave 379 = .ok (.iload_n 2, 1) := by decide +kernel
theorem dX12_leave_380 : decode cX12_leave 380 = .ok (.iaload, 1) := by decide +kernel
theorem dX12_leave_381 : decode cX12_leave 381 = .ok (.goto 7, 3) := by decide +kernel
theorem dX12_leave_384 : decode cX12_leave 384 = .ok (.aload_n 0, 1) := by decide +kernel
theorem dX12_leave_385 : decode cX12_leave 385 = .ok (.getfield 272, 3) := by decide +kernel
theorem dX12_leave_388 : decode cX12_leave 388 = .ok (.iload 7, 2) := by decide +kernel
theorem dX12_leave_390 : decode cX12_leave 390 = .ok (.if_icmp .lt 7, 3) := by decide +kernel
theorem dX12_leave_393 : decode cX12_leave 393 = .ok (.iconst 1, 1) := by decide +kernel
theorem dX12_leave_394 : decode cX12_leave 394 = .ok (.goto 4, 3) := by decide +kernel
theorem dX12_leave_397 : decode cX12_leave 397 = .ok (.iconst 0, 1) := by decide +kernel
theorem dX12_leave_398 : decode cX12_leave 398 = .ok (.istore 8, 2) := by decide +kernel
theorem dX12_leave_400 : decode cX12_leave 400 = .ok (.iload 8, 2) := by decide +kernel
theorem dX12_leave_402 : decode cX12_leave 402 = .ok (.ifCond .ne 59, 3) := by decide +kernel
theorem dX12_leave_405 : decode cX12_leave 405 = .ok (.aload_n 0, 1) := by decide +kernel
theorem dX12_leave_406 : decode cX12_leave 406 = .ok (.getfield 168, 3) := by decide +kernel
theorem dX12_leave_409 : decode cX12_leave 409 = .ok (.iload_n 2, 1) := by decide +kernel
theorem dX12_leave_410 : decode cX12_leave 410 = .ok (.iconst 1, 1) := by decide +kernel
theorem dX12_leave_411 : decode cX12_leave 411 = .ok (.iastore, 1) := by decide +kernel
theorem dX12_leave_412 : decode cX12_leave 412 = .ok (.iconst 0, 1) := by decide +kernel
theorem dX12_leave_413 : decode cX12_leave 413 = .ok (.istore 9, 2) := by decide +kernel
theorem dX12_leave_415 : decode cX12_leave 415 = .ok (.iload 9, 2) := by decide +kernel
theorem dX12_leave_417 : decode cX12_leave 417 = .ok (.aload_n 0, 1) := by decide +kernel
theorem dX12_leave_418 : decode cX12_leave 418 = .ok (.getfield 254, 3) := by decide +kernel
theorem dX12_leave_421 : decode cX12_leave 421 = .ok (.if_icmp .ge 39, 3) := by decide +kernel
theorem dX12_leave_424 : decode cX12_leave 424 = .ok (.aload_n 0, 1) := by decide +kernel
theorem dX12_leave_425 : decode cX12_leave 425 = .ok (.getfield 135, 3) := by decide +kernel
theorem dX12_leave_428 : decode cX12_leave 428 = .ok (.iload 9, 2) := by decide +kernel
theorem dX12_leave_430 : decode cX12_leave 430 = .ok (.iaload, 1) := by decide +kernel
theorem dX12_leave_431 : decode cX12_leave 431 = .ok (.iconst 3, 1) := by decide +kernel
theorem dX12_leave_432 : decode cX12_leave 432 = .ok (.if_icmp .ne 22, 3) := by decide +kernel
theorem dX12_leave_435 : decode cX12_leave 435 = .ok (.aload_n 0, 1) := by decide +kernel
theorem dX12_leave_436 : decode cX12_leave 436 = .ok (.getfield 144, 3) := by decide +kernel
theorem dX12_leave_439 : decode cX12_leave 439 = .ok (.iload 9, 2) := by decide +kernel
theorem dX12_leave_441 : decode cX12_leave 441 = .ok (.iaload, 1) := by decide +kernel
theorem dX12_leave_442 : decode cX12_leave 442 = .ok (.iload_n 1, 1) := by decide +kernel
theorem dX12_leave_443 : decode cX12_leave 443 = .ok (.if_icmp .ne 11, 3) := by decide +kernel
theorem dX12_leave_446 : decode cX12_leave 446 = .ok (.aload_n 0, 1) := by decide +kernel
theorem dX12_leave_447 : decode cX12_leave 447 = .ok (.getfield 135, 3) := by decide +kernel
theorem dX12_leave_450 : decode cX12_leave 450 = .ok (.iload 9, 2) := by decide +kernel
theorem dX12_leave_452 : decode cX12_leave 452 = .ok (.iconst 2, 1) := by decide +kernel
theorem dX12_leave_453 : decode cX12_leave 453 = .ok (.iastore, 1) := by decide +kernel
theorem dX12_leave_454 : decode cX12_leave 454 = .ok (.iinc 9 1, 3) := by decide +kernel
theorem dX12_leave_457 : decode cX12_leave 457 = .ok (.goto (-42), 3) := by decide +kernel
theorem dX12_leave_460 : decode cX12_leave 460 = .ok (.return_, 1) := by decide +kernel
theorem dX12_leave_461 : decode cX12_leave 461 = .ok (.aload_n 0, 1) := by decide +kernel
theorem dX12_leave_462 : decode cX12_leave 462 = .ok (.getfield 52, 3) := by decide +kernel
theorem dX12_leave_465 : decode cX12_leave 465 = .ok (.iload_n 2, 1) := by decide +kernel
theorem dX12_leave_466 : decode cX12_leave 466 = .ok (.iaload, 1) := by decide +kernel
theorem dX12_leave_467 : decode cX12_leave 467 = .ok (.iconst 2, 1) := by decide +kernel
theorem dX12_leave_468 : decode cX12_leave 468 = .ok (.if_icmp .ne 17, 3) := by decide +kernel
theorem dX12_leave_471 : decode cX12_leave 471 = .ok (.aload_n 0, 1) := by decide +kernel
theorem dX12_leave_472 : decode cX12_leave 472 = .ok (.getfield 64, 3) := by decide +kernel
theorem dX12_leave_475 : decode cX12_leave 475 = .ok (.iload_n 2, 1) := by decide +kernel
theorem dX12_leave_476 : decode cX12_leave 476 = .ok (.dup2, 1) := by decide +kernel
theorem dX12_leave_477 : decode cX12_leave 477 = .ok (.iaload, 1) := by decide +kernel
theorem dX12_leave_478 : decode cX12_leave 478 = .ok (.iload 7, 2) := by decide +kernel
theorem dX12_leave_480 : decode cX12_leave 480 = .ok (.isub, 1) := by decide +kernel
theorem dX12_leave_481 : decode cX12_leave 481 = .ok (.iastore, 1) := by decide +kernel
theorem dX12_leave_482 : decode cX12_leave 482 = .ok (.goto 14, 3) := by decide +kernel
theorem dX12_leave_485 : decode cX12_leave 485 = .ok (.aload_n 0, 1) := by decide +kernel
theorem dX12_leave_486 : decode cX12_leave 486 = .ok (.dup, 1) := by decide +kernel
theorem dX12_leave_487 : decode cX12_leave 487 = .ok (.getfield 272, 3) := by decide +kernel
theorem dX12_leave_490 : decode cX12_leave 490 = .ok (.iload 7, 2) := by decide +kernel
theorem dX12_leave_492 : decode cX12_leave 492 = .ok (.isub, 1) := by decide +kernel
theorem dX12_leave_493 : decode cX12_leave 493 = .ok (.putfield 272, 3) := by decide +kernel
theorem dX12_leave_496 : decode cX12_leave 496 = .ok (.aload_n 0, 1) := by decide +kernel
theorem dX12_leave_497 : decode cX12_leave 497 = .ok (.getfield 171, 3) := by decide +kernel
theorem dX12_leave_500 : decode cX12_leave 500 = .ok (.iload_n 1, 1) := by decide +kernel
theorem dX12_leave_501 : decode cX12_leave 501 = .ok (.iload 5, 2) := by decide +kernel
theorem dX12_leave_503 : decode cX12_leave 503 = .ok (.iastore, 1) := by decide +kernel
theorem dX12_leave_504 : decode cX12_leave 504 = .ok (.aload_n 0, 1) := by decide +kernel
theorem dX12_leave_505 : decode cX12_leave 505 = .ok (.getfield 159, 3) := by decide +kernel
theorem dX12_leave_508 : decode cX12_leave 508 = .ok (.iload_n 2, 1) := by decide +kernel
theorem dX12_leave_509 : decode cX12_leave 509 = .ok (.aload_n 0, 1) := by decide +kernel
theorem dX12_leave_510 : decode cX12_leave 510 = .ok (.getfield 73, 3) := by decide +kernel
theorem dX12_leave_513 : decode cX12_leave 513 = .ok (.iload_n 1, 1) := by decide +kernel
theorem dX12_leave_514 : decode cX12_leave 514 = .ok (.iaload, 1) := by decide +kernel
theorem dX12_leave_515 : decode cX12_leave 515 = .ok (.iastore, 1) := by decide +kernel
theorem dX12_leave_516 : decode cX12_leave 516 = .ok (.aload_n 0, 1) := by decide +kernel
theorem dX12_leave_517 : decode cX12_leave 517 = .ok (.getfield 162, 3) := by decide +kernel
theorem dX12_leave_520 : decode cX12_leave 520 = .ok (.iload_n 2, 1) := by decide +kernel
theorem dX12_leave_521 : decode cX12_leave 521 = .ok (.aload_n 0, 1) := by decide +kernel
theorem dX12_leave_522 : decode cX12_leave 522 = .ok (.getfield 443, 3) := by decide +kernel
theorem dX12_leave_525 : decode cX12_leave 525 = .ok (.iload 6, 2) := by decide +kernel
theorem dX12_leave_527 : decode cX12_leave 527 = .ok (.iadd, 1) := by decide +kernel
theorem dX12_leave_528 : decode cX12_leave 528 = .ok (.aload_n 0, 1) := by decide +kernel
theorem dX12_leave_529 : decode cX12_leave 529 = .ok (.iload_n 1, 1) := by decide +kernel
theorem dX12_leave_530 : decode cX12_leave 530 = .ok (.invokevirtual 436, 3) := by decide +kernel
theorem dX12_leave_533 : decode cX12_leave 533 = .ok (.iadd, 1) := by decide +kernel
theorem dX12_leave_534 : decode cX12_leave 534 = .ok (.iastore, 1) := by decide +kernel
theorem dX12_leave_535 : decode cX12_leave 535 = .ok (.iconst 0, 1) := by decide +kernel
theorem dX12_leave_536 : decode cX12_leave 536 = .ok (.istore 7, 2) := by decide +kernel
theorem dX12_leave_538 : decode cX12_leave 538 = .ok (.iload 7, 2) := by decide +kernel
theorem dX12_leave_540 : decode cX12_leave 540 = .ok (.aload_n 0, 1) := by decide +kernel
theorem dX12_leave_541 : decode cX12_leave 541 = .ok (.getfield 254, 3) := by decide +kernel
theorem dX12_leave_544 : decode cX12_leave 544 = .ok (.if_icmp .ge 42, 3) := by decide +kernel
theorem dX12_leave_547 : decode cX12_leave 547 = .ok (.aload_n 0, 1) := by decide +kernel
theorem dX12_leave_548 : decode cX12_leave 548 = .ok (.getfield 135, 3) := by decide +kernel
theorem dX12_leave_551 : decode cX12_leave 551 = .ok (.iload 7, 2) := by decide +kernel
theorem dX12_leave_553 : decode cX12_leave 553 = .ok (.iaload, 1) := by decide +kernel
theorem dX12_leave_554 : decode cX12_leave 554 = .ok (.iconst 3, 1) := by decide +kernel
theorem dX12_leave_555 : decode cX12_leave 555 = .ok (.if_icmp .ne 25, 3) := by decide +kernel
theorem dX12_leave_558 : decode cX12_leave 558 = .ok (.aload_n 0, 1) := by decide +kernel
theorem dX12_leave_559 : decode cX12_leave 559 = .ok (.getfield 144, 3) := by decide +kernel
theorem dX12_leave_562 : decode cX12_leave 562 = .ok (.iload 7, 2) := by decide +kernel
theorem dX12_leave_564 : decode cX12_leave 564 = .ok (.iaload, 1) := by decide +kernel
theorem dX12_leave_565 : decode cX12_leave 565 = .ok (.iload_n 1, 1) := by decide +kernel
theorem dX12_leave_566 : decode cX12_leave 566 = .ok (.if_icmp .ne 14, 3) := by decide +kernel
theorem dX12_leave_569 : decode cX12_leave 569 = .ok (.aload_n 0, 1) := by decide +kernel
theorem dX12_leave_570 : decode cX12_leave 570 = .ok (.getfield 156, 3) := by decide +kernel
theorem dX12_leave_573 : decode cX12_leave 573 = .ok (.iload 7, 2) := by decide +kernel
theorem dX12_leave_575 : decode cX12_leave 575 = .ok (.dup2, 1) := by decide +kernel
theorem dX12_leave_576 : decode cX12_leave 576 = .ok (.iaload, 1) := by decide +kernel
theorem dX12_leave_577 : decode cX12_leave 577 = .ok (.iconst 1, 1) := by decide +kernel
theorem dX12_leave_578 : decode cX12_leave 578 = .ok (.iadd, 1) := by decide +kernel
theorem dX12_leave_579 : decode cX12_leave 579 = .ok (.iastore, 1) := by decide +kernel
theorem dX12_leave_580 : decode cX12_leave 580 = .ok (.iinc 7 1, 3) := by decide +kernel
theorem dX12_leave_583 : decode cX12_leave 583 = .ok (.goto (-45), 3) := by decide +kernel
theorem dX12_leave_586 : decode cX12_leave 586 = .ok (.return_, 1) := by decide +kernel
theorem dX12_morning_0 : decode cX12_morning 0 = .ok (.aload_n 0, 1) := by decide +kernel
theorem dX12_morning_1 : decode cX12_morning 1 = .ok (.iconst 0, 1) := by decide +kernel
theorem dX12_morning_2 : decode cX12_morning 2 = .ok (.putfield 204, 3) := by decide +kernel
theorem dX12_morning_5 : decode cX12_morning 5 = .ok (.aload_n 0, 1) := by decide +kernel
theorem dX12_morning_6 : decode cX12_morning 6 = .ok (.getfield 183, 3) := by decide +kernel
theorem dX12_morning_9 : decode cX12_morning 9 = .ok (.aload_n 0, 1) := by decide +kernel
theorem dX12_morning_10 : decode cX12_morning 10 = .ok (.getfield 218, 3) := by decide +kernel
theorem dX12_morning_13 : decode cX12_morning 13 = .ok (.if_icmp .ne 5, 3) := by decide +kernel
theorem dX12_morning_16 : decode cX12_morning 16 = .ok (.iconst (-1), 1) := by decide +kernel
theorem dX12_morning_17 : decode cX12_morning 17 = .ok (.ireturn, 1) := by decide +kernel
theorem dX12_morning_18 : decode cX12_morning 18 = .ok (.aload_n 0, 1) := by decide +kernel
theorem dX12_morning_19 : decode cX12_morning 19 = .ok (.aload_n 0, 1) := by decide +kernel
theorem dX12_morning_20 : decode cX12_morning 20 = .ok (.getfield 218, 3) := by decide +kernel
theorem dX12_morning_23 : decode cX12_morning 23 = .ok (.putfield 183, 3) := by decide +kernel
theorem dX12_morning_26 : decode cX12_morning 26 = .ok (.aload_n 0, 1) := by decide +kernel
theorem dX12_morning_27 : decode cX12_morning 27 = .ok (.iconst (-1), 1) := by decide +kernel
theorem dX12_morning_28 : decode cX12_morning 28 = .ok (.invokevirtual 468, 3) := by decide +kernel
theorem dX12_morning_31 : decode cX12_morning 31 = .ok (.iconst 0, 1) := by decide +kernel
theorem dX12_morning_32 : decode cX12_morning 32 = .ok (.istore_n 1, 1) := by decide +kernel
theorem dX12_morning_33 : decode cX12_morning 33 = .ok (.iload_n 1, 1) := by decide +kernel
theorem dX12_morning_34 : decode cX12_morning 34 = .ok (.aload_n 0, 1) := by decide +kernel
theorem dX12_morning_35 : decode cX12_morning 35 = .ok (.getfield 269, 3) := by decide +kernel
theorem dX12_morning_38 : decode cX12_morning 38 = .ok (.if_icmp .ge 21, 3) := by decide +kernel
theorem dX12_morning_41 : decode cX12_morning 41 = .ok (.aload_n 0, 1) := by decide +kernel
theorem dX12_morning_42 : decode cX12_morning 42 = .ok (.getfield 174, 3) := by decide +kernel
theorem dX12_morning_45 : decode cX12_morning 45 = .ok (.iload_n 1, 1) := by decide +kernel
theorem dX12_morning_46 : decode cX12_morning 46 = .ok (.aload_n 0, 1) := by decide +kernel
theorem dX12_morning_47 : decode cX12_morning 47 = .ok (.getfield 171, 3) := by decide +kernel
theorem dX12_morning_50 : decode cX12_morning 50 = .ok (.iload_n 1, 1) := by decide +kernel
theorem dX12_morning_51 : decode cX12_morning 51 = .ok (.iaload, 1) := by decide +kernel
theorem dX12_morning_52 : decode cX12_morning 52 = .ok (.iastore, 1) := by decide +kernel
theorem dX12_morning_53 : decode cX12_morning 53 = .ok (.iinc 1 1, 3) := by decide +kernel
theorem dX12_morning_56 : decode cX12_morning 56 = .ok (.goto (-23), 3) := by decide +kernel
theorem dX12_morning_59 : decode cX12_morning 59 = .ok (.aload_n 0, 1) := by decide +kernel
theorem dX12_morning_60 : decode cX12_morning 60 = .ok (.invokevirtual 471, 3) := by decide +kernel
theorem dX12_morning_63 : decode cX12_morning 63 = .ok (.ireturn, 1) := by decide +kernel
theorem dX12_putBack_0 : decode cX12_putBack 0 = .ok (.iconst 0, 1) := by decide +kernel
theorem dX12_putBack_1 : decode cX12_putBack 1 = .ok (.istore_n 3, 1) := by decide +kernel
theorem dX12_putBack_2 : decode cX12_putBack 2 = .ok (.iload_n 3, 1) := by decide +kernel
theorem dX12_putBack_3 : decode cX12_putBack 3 = .ok (.iload_n 2, 1) := by decide +kernel
theorem dX12_putBack_4 : decode cX12_putBack 4 = .ok (.if_icmp .ge 31, 3) := by decide +kernel
theorem dX12_putBack_7 : decode cX12_putBack 7 = .ok (.aload_n 1, 1) := by decide +kernel
theorem dX12_putBack_8 : decode cX12_putBack 8 = .ok (.iload_n 3, 1) := by decide +kernel
theorem dX12_putBack_9 : decode cX12_putBack 9 = .ok (.aload_n 0, 1) := by decide +kernel
theorem dX12_putBack_10 : decode cX12_putBack 10 = .ok (.getfield 186, 3) := by decide +kernel
theorem dX12_putBack_13 : decode cX12_putBack 13 = .ok (.aload_n 0, 1) := by decide +kernel
theorem dX12_putBack_14 : decode cX12_putBack 14 = .ok (.getfield 474, 3) := by decide +kernel
theorem dX12_putBack_17 : decode cX12_putBack 17 = .ok (.iaload, 1) := by decide +kernel
theorem dX12_putBack_18 : decode cX12_putBack 18 = .ok (.iastore, 1) := by decide +kernel
theorem dX12_putBack_19 : decode cX12_putBack 19 = .ok (.aload_n 0, 1) := by decide +kernel
theorem dX12_putBack_20 : decode cX12_putBack 20 = .ok (.dup, 1) := by decide +kernel
theorem dX12_putBack_21 : decode cX12_putBack 21 = .ok (.getfield 474, 3) := by decide +kernel
theorem dX12_putBack_24 : decode cX12_putBack 24 = .ok (.iconst 1, 1) := by decide +kernel
theorem dX12_putBack_25 : decode cX12_putBack 25 = .ok (.iadd, 1) := by decide +kernel
theorem dX12_putBack_26 : decode cX12_putBack 26 = .ok (.putfield 474, 3) := by decide +kernel
theorem dX12_putBack_29 : decode cX12_putBack 29 = .ok (.iinc 3 1, 3) := by decide +kernel
theorem dX12_putBack_32 : decode cX12_putBack 32 = .ok (.goto (-30), 3) := by decide +kernel
theorem dX12_putBack_35 : decode cX12_putBack 35 = .ok (.return_, 1) := by decide +kernel
theorem dX12_step_0 : decode cX12_step 0 = .ok (.iconst 0, 1) := by decide +kernel
theorem dX12_step_1 : decode cX12_step 1 = .ok (.istore_n 1, 1) := by decide +kernel
theorem dX12_step_2 : decode cX12_step 2 = .ok (.iload_n 1, 1) := by decide +kernel
theorem dX12_step_3 : decode cX12_step 3 = .ok (.aload_n 0, 1) := by decide +kernel
theorem dX12_step_4 : decode cX12_step 4 = .ok (.getfield 263, 3) := by decide +kernel
theorem dX12_step_7 : decode cX12_step 7 = .ok (.if_icmp .ge 29, 3) := by decide +kernel
theorem dX12_step_10 : decode cX12_step 10 = .ok (.aload_n 0, 1) := by decide +kernel
theorem dX12_step_11 : decode cX12_step 11 = .ok (.getfield 162, 3) := by decide +kernel
theorem dX12_step_14 : decode cX12_step 14 = .ok (.iload_n 1, 1) := by decide +kernel
theorem dX12_step_15 : decode cX12_step 15 = .ok (.iaload, 1) := by decide +kernel
theorem dX12_step_16 : decode cX12_step 16 = .ok (.aload_n 0, 1) := by decide +kernel
theorem dX12_step_17 : decode cX12_step 17 = .ok (.getfield 443, 3) := by decide +kernel
theorem dX12_step_20 : decode cX12_step 20 = .ok (.if_icmp .ne 10, 3) := by decide +kernel
theorem dX12_step_23 : decode cX12_step 23 = .ok (.aload_n 0, 1) := by decide +kernel
theorem dX12_step_24 : decode cX12_step 24 = .ok (.getfield 162, 3) := by decide +kernel
theorem dX12_step_27 : decode cX12_step 27 = .ok (.iload_n 1, 1) := by decide +kernel
theorem dX12_step_28 : decode cX12_step 28 = .ok (.iconst (-1), 1) := by decide +kernel
theorem dX12_step_29 : decode cX12_step 29 = .ok (.iastore, 1) := by decide +kernel
theorem dX12_step_30 : decode cX12_step 30 = .ok (.iinc 1 1, 3) := by decide +kernel
theorem dX12_step_33 : decode cX12_step 33 = .ok (.goto (-31), 3) := by decide +kernel
theorem dX12_step_36 : decode cX12_step 36 = .ok (.iconst 0, 1) := by decide +kernel
theorem dX12_step_37 : decode cX12_step 37 = .ok (.istore_n 1, 1) := by decide +kernel
theorem dX12_step_38 : decode cX12_step 38 = .ok (.iload_n 1, 1) := by decide +kernel
theorem dX12_step_39 : decode cX12_step 39 = .ok (.aload_n 0, 1) := by decide +kernel
theorem dX12_step_40 : decode cX12_step 40 = .ok (.getfield 254, 3) := by decide +kernel
theorem dX12_step_43 : decode cX12_step 43 = .ok (.if_icmp .ge 73, 3) := by decide +kernel
theorem dX12_step_46 : decode cX12_step 46 = .ok (.aload_n 0, 1) := by decide +kernel
theorem dX12_step_47 : decode cX12_step 47 = .ok (.getfield 135, 3) := by decide +kernel
theorem dX12_step_50 : decode cX12_step 50 = .ok (.iload_n 1, 1) := by decide +kernel
theorem dX12_step_51 : decode cX12_step 51 = .ok (.iaload, 1) := by decide +kernel
theorem dX12_step_52 : decode cX12_step 52 = .ok (.iconst 3, 1) := by decide +kernel
theorem dX12_step_53 : decode cX12_step 53 = .ok (.if_icmp .ne 57, 3) := by decide +kernel
theorem dX12_step_56 : decode cX12_step 56 = .ok (.aload_n 0, 1) := by decide +kernel
theorem dX12_step_57 : decode cX12_step 57 = .ok (.getfield 162, 3) := by decide +kernel
theorem dX12_step_60 : decode cX12_step 60 = .ok (.aload_n 0, 1) := by decide +kernel
theorem dX12_step_61 : decode cX12_step 61 = .ok (.getfield 67, 3) := by decide +kernel
theorem dX12_step_64 : decode cX12_step 64 = .ok (.aload_n 0, 1) := by decide +kernel
theorem dX12_step_65 : decode cX12_step 65 = .ok (.getfield 144, 3) := by decide +kernel
theorem dX12_step_68 : decode cX12_step 68 = .ok (.iload_n 1, 1) := by decide +kernel
theorem dX12_step_69 : decode cX12_step 69 = .ok (.iaload, 1) := by decide +kernel
theorem dX12_step_70 : decode cX12_step 70 = .ok (.iaload, 1) := by decide +kernel
theorem dX12_step_71 : decode cX12_step 71 = .ok (.iaload, 1) := by decide +kernel
theorem dX12_step_72 : decode cX12_step 72 = .ok (.iconst (-1), 1) := by decide +kernel
theorem dX12_step_73 : decode cX12_step 73 = .ok (.if_icmp .eq 6, 3) := by decide +kernel
theorem dX12_step_76 : decode cX12_step 76 = .ok (.goto 34, 3) := by decide +kernel
theorem dX12_step_79 : decode cX12_step 79 = .ok (.aload_n 0, 1) := by decide +kernel
theorem dX12_step_80 : decode cX12_step 80 = .ok (.getfield 138, 3) := by decide +kernel
theorem dX12_step_83 : decode cX12_step 83 = .ok (.iload_n 1, 1) := by decide +kernel
theorem dX12_step_84 : decode cX12_step 84 = .ok (.aload_n 0, 1) := by decide +kernel
theorem dX12_step_85 : decode cX12_step 85 = .ok (.getfield 49, 3) := by decide +kernel
theorem dX12_step_88 : decode cX12_step 88 = .ok (.aload_n 0, 1) := by decide +kernel
theorem dX12_step_89 : decode cX12_step 89 = .ok (.getfield 73, 3) := by decide +kernel
theorem dX12_step_92 : decode cX12_step 92 = .ok (.aload_n 0, 1) := by decide +kernel
theorem dX12_step_93 : decode cX12_step 93 = .ok (.getfield 144, 3) := by decide +kernel
theorem dX12_step_96 : decode cX12_step 96 = .ok (.iload_n 1, 1) := by decide +kernel
theorem dX12_step_97 : decode cX12_step 97 = .ok (.iaload, 1) := by decide +kernel
theorem dX12_step_98 : decode cX12_step 98 = .ok (.iaload, 1) := by decide +kernel
theorem dX12_step_99 : decode cX12_step 99 = .ok (.iaload, 1) := by decide +kernel
theorem dX12_step_100 : decode cX12_step 100 = .ok (.iastore, 1) := by decide +kernel
theorem dX12_step_101 : decode cX12_step 101 = .ok (.aload_n 0, 1) := by decide +kernel
theorem dX12_step_102 : decode cX12_step 102 = .ok (.iload_n 1, 1) := by decide +kernel
theorem dX12_step_103 : decode cX12_step 103 = .ok (.aload_n 0, 1) := by decide +kernel
theorem dX12_step_104 : decode cX12_step 104 = .ok (.getfield 443, 3) := by decide +kernel
theorem dX12_step_107 : decode cX12_step 107 = .ok (.invokevirtual 456, 3) := by decide +kernel
theorem dX12_step_110 : decode cX12_step 110 = .ok (.iinc 1 1, 3) := by decide +kernel
theorem dX12_step_113 : decode cX12_step 113 = .ok (.goto (-75), 3) := by decide +kernel
theorem dX12_step_116 : decode cX12_step 116 = .ok (.iconst 0, 1) := by decide +kernel
theorem dX12_step_117 : decode cX12_step 117 = .ok (.istore_n 1, 1) := by decide +kernel
theorem dX12_step_118 : decode cX12_step 118 = .ok (.iload_n 1, 1) := by decide +kernel
theorem dX12_step_119 : decode cX12_step 119 = .ok (.aload_n 0, 1) := by decide +kernel
theorem dX12_step_120 : decode cX12_step 120 = .ok (.getfield 254, 3) := by decide +kernel
theorem dX12_step_123 : decode cX12_step 123 = .ok (.if_icmp .ge 81, 3) := by decide +kernel
theorem dX12_step_126 : decode cX12_step 126 = .ok (.aload_n 0, 1) := by decide +kernel
theorem dX12_step_127 : decode cX12_step 127 = .ok (.getfield 135, 3) := by decide +kernel
theorem dX12_step_130 : decode cX12_step 130 = .ok (.iload_n 1, 1) := by decide +kernel
theorem dX12_step_131 : decode cX12_step 131 = .ok (.iaload, 1) := by decide +kernel
theorem dX12_step_132 : decode cX12_step 132 = .ok (.ifCond .ne 28, 3) := by decide +kernel
theorem dX12_step_135 : decode cX12_step 135 = .ok (.aload_n 0, 1) := by decide +kernel
theorem dX12_step_136 : decode cX12_step 136 = .ok (.getfield 28, 3) := by decide +kernel
theorem dX12_step_139 : decode cX12_step 139 = .ok (.iload_n 1, 1) := by decide +kernel
theorem dX12_step_140 : decode cX12_step 140 = .ok (.iaload, 1) := by decide +kernel
theorem dX12_step_141 : decode cX12_step 141 = .ok (.aload_n 0, 1) := by decide +kernel
theorem dX12_step_142 : decode cX12_step 142 = .ok (.getfield 443, 3) := by decide +kernel
theorem dX12_step_145 : decode cX12_step 145 = .ok (.if_icmp .ne 15, 3) := by decide +kernel
theorem dX12_step_148 : decode cX12_step 148 = .ok (.aload_n 0, 1) := by decide +kernel
theorem dX12_step_149 : decode cX12_step 149 = .ok (.iload_n 1, 1) := by decide +kernel
theorem dX12_step_150 : decode cX12_step 150 = .ok (.aload_n 0, 1) := by decide +kernel
theorem dX12_step_151 : decode cX12_step 151 = .ok (.getfield 443, 3) := by decide +kernel
theorem dX12_step_154 : decode cX12_step 154 = .ok (.invokevirtual 456, 3) := by decide +kernel
theorem dX12_step_157 : decode cX12_step 157 = .ok (.goto 41, 3) := by decide +kernel
theorem dX12_step_160 : decode cX12_step 160 = .ok (.aload_n 0, 1) := by decide +kernel
theorem dX12_step_161 : decode cX12_step 161 = .ok (.getfield 135, 3) := by decide +kernel
theorem dX12_step_164 : decode cX12_step 164 = .ok (.iload_n 1, 1) := by decide +kernel
theorem dX12_step_165 : decode cX12_step 165 = .ok (.iaload, 1) := by decide +kernel
theorem dX12_step_166 : decode cX12_step 166 = .ok (.iconst 1, 1) := by decide +kernel
theorem dX12_step_167 : decode cX12_step 167 = .ok (.if_icmp .eq 13, 3) := by decide +kernel
theorem dX12_step_170 : decode cX12_step 170 = .ok (.aload_n 0, 1) := by decide +kernel
theorem dX12_step_171 : decode cX12_step 171 = .ok (.getfield 135, 3) := by decide +kernel
theorem dX12_step_174 : decode cX12_step 174 = .ok (.iload_n 1, 1) := by decide +kernel
theorem dX12_step_175 : decode cX12_step 175 = .ok (.iaload, 1) := by decide +kernel
theorem dX12_step_176 : decode cX12_step 176 = .ok (.iconst 4, 1) := by decide +kernel
theorem dX12_step_177 : decode cX12_step 177 = .ok (.if_icmp .ne 21, 3) := by decide +kernel
theorem dX12_step_180 : decode cX12_step 180 = .ok (.aload_n 0, 1) := by decide +kernel
theorem dX12_step_181 : decode cX12_step 181 = .ok (.getfield 141, 3) := by decide +kernel
theorem dX12_step_184 : decode cX12_step 184 = .ok (.iload_n 1, 1) := by decide +kernel
theorem dX12_step_185 : decode cX12_step 185 = .ok (.iaload, 1) := by decide +kernel
theorem dX12_step_186 : decode cX12_step 186 = .ok (.aload_n 0, 1) := by decide +kernel
theorem dX12_step_187 : decode cX12_step 187 = .ok (.getfield 443, 3) := by decide +kernel
theorem dX12_step_190 : decode cX12_step 190 = .ok (.if_icmp .ne 8, 3) := by decide +kernel
theorem dX12_step_193 : decode cX12_step 193 = .ok (.aload_n 0, 1) := by decide +kernel
theorem dX12_step_194 : decode cX12_step 194 = .ok (.iload_n 1, 1) := by decide +kernel
theorem dX12_step_195 : decode cX12_step 195 = .ok (.invokevirtual 446, 3) := by decide +kernel
theorem dX12_step_198 : decode cX12_step 198 = .ok (.iinc 1 1, 3) := by decide +kernel
theorem dX12_step_201 : decode cX12_step 201 = .ok (.goto (-83), 3) := by decide +kernel
theorem dX12_step_204 : decode cX12_step 204 = .ok (.iconst 0, 1) := by decide +kernel
theorem dX12_step_205 : decode cX12_step 205 = .ok (.istore_n 1, 1) := by decide +kernel
theorem dX12_step_206 : decode cX12_step 206 = .ok (.iload_n 1, 1) := by decide +kernel
theorem dX12_step_207 : decode cX12_step 207 = .ok (.aload_n 0, 1) := by decide +kernel
theorem dX12_step_208 : decode cX12_step 208 = .ok (.getfield 269, 3) := by decide +kernel
theorem dX12_step_211 : decode cX12_step 211 = .ok (.if_icmp .ge 35, 3) := by decide +kernel
theorem dX12_step_214 : decode cX12_step 214 = .ok (.aload_n 0, 1) := by decide +kernel
theorem dX12_step_215 : decode cX12_step 215 = .ok (.getfield 76, 3) := by decide +kernel
theorem dX12_step_218 : decode cX12_step 218 = .ok (.iload_n 1, 1) := by decide +kernel
theorem dX12_step_219 : decode cX12_step 219 = .ok (.iaload, 1) := by decide +kernel
theorem dX12_step_220 : decode cX12_step 220 = .ok (.aload_n 0, 1) := by decide +kernel
theorem dX12_step_221 : decode cX12_step 221 = .ok (.getfield 443, 3) := by decide +kernel
theorem dX12_step_224 : decode cX12_step 224 = .ok (.if_icmp .ne 16, 3) := by decide +kernel
theorem dX12_step_227 : decode cX12_step 227 = .ok (.aload_n 0, 1) := by decide +kernel
theorem dX12_step_228 : decode cX12_step 228 = .ok (.iload_n 1, 1) := by decide +kernel
theorem dX12_step_229 : decode cX12_step 229 = .ok (.invokevirtual 426, 3) := by decide +kernel
theorem dX12_step_232 : decode cX12_step 232 = .ok (.ifCond .eq 8, 3) := by decide +kernel
theorem dX12_step_235 : decode cX12_step 235 = .ok (.aload_n 0, 1) := by decide +kernel
theorem dX12_step_236 : decode cX12_step 236 = .ok (.iload_n 1, 1) := by decide +kernel
theorem dX12_step_237 : decode cX12_step 237 = .ok (.invokevirtual 459, 3) := by decide +kernel
theorem dX12_step_240 : decode cX12_step 240 = .ok (.iinc 1 1, 3) := by decide +kernel
theorem dX12_step_243 : decode cX12_step 243 = .ok (.goto (-37), 3) := by decide +kernel
theorem dX12_step_246 : decode cX12_step 246 = .ok (.iconst 0, 1) := by decide +kernel
theorem dX12_step_247 : decode cX12_step 247 = .ok (.istore_n 1, 1) := by decide +kernel
theorem dX12_step_248 : decode cX12_step 248 = .ok (.iload_n 1, 1) := by decide +kernel
theorem dX12_step_249 : decode cX12_step 249 = .ok (.aload_n 0, 1) := by decide +kernel
theorem dX12_step_250 : decode cX12_step 250 = .ok (.getfield 254, 3) := by decide +kernel
theorem dX12_step_253 : decode cX12_step 253 = .ok (.if_icmp .ge 51, 3) := by decide +kernel
theorem dX12_step_256 : decode cX12_step 256 = .ok (.aload_n 0, 1) := by decide +kernel
theorem dX12_step_257 : decode cX12_step 257 = .ok (.getfield 135, 3) := by decide +kernel
theorem dX12_step_260 : decode cX12_step 260 = .ok (.iload_n 1, 1) := by decide +kernel
theorem dX12_step_261 : decode cX12_step 261 = .ok (.iaload, 1) := by decide +kernel
theorem dX12_step_262 : decode cX12_step 262 = .ok (.iconst 2, 1) := by decide +kernel
theorem dX12_step_263 : decode cX12_step 263 = .ok (.if_icmp .ne 35, 3) := by decide +kernel
theorem dX12_step_266 : decode cX12_step 266 = .ok (.aload_n 0, 1) := by decide +kernel
theorem dX12_step_267 : decode cX12_step 267 = .ok (.getfield 76, 3) := by decide +kernel
theorem dX12_step_270 : decode cX12_step 270 = .ok (.aload_n 0, 1) := by decide +kernel
theorem dX12_step_271 : decode cX12_step 271 = .ok (.getfield 144, 3) := by decide +kernel
theorem dX12_step_274 : decode cX12_step 274 = .ok (.iload_n 1, 1) := by decide +kernel
theorem dX12_step_275 : decode cX12_step 275 = .ok (.iaload, 1) := by decide +kernel
theorem dX12_step_276 : decode cX12_step 276 = .ok (.iaload, 1) := by decide +kernel
theorem dX12_step_277 : decode cX12_step 277 = .ok (.aload_n 0, 1) := by decide +kernel
theorem dX12_step_278 : decode cX12_step 278 = .ok (.getfield 443, 3) := by decide +kernel
theorem dX12_step_281 : decode cX12_step 281 = .ok (.if_icmp .eq 6, 3) := by decide +kernel
theorem dX12_step_284 : decode cX12_step 284 = .ok (.goto 14, 3) := by decide +kernel
theorem dX12_step_287 : decode cX12_step 287 = .ok (.aload_n 0, 1) := by decide +kernel
theorem dX12_step_288 : decode cX12_step 288 = .ok (.iload_n 1, 1) := by decide +kernel
theorem dX12_step_289 : decode cX12_step 289 = .ok (.aload_n 0, 1) := by decide +kernel
theorem dX12_step_290 : decode cX12_step 290 = .ok (.getfield 443, 3) := by decide +kernel
theorem dX12_step_293 : decode cX12_step 293 = .ok (.iconst 1, 1) := by decide +kernel
theorem dX12_step_294 : decode cX12_step 294 = .ok (.iadd, 1) := by decide +kernel
theorem dX12_step_295 : decode cX12_step 295 = .ok (.invokevirtual 456, 3) := by decide +kernel
theorem dX12_step_298 : decode cX12_step 298 = .ok (.iinc 1 1, 3) := by decide +kernel
theorem dX12_step_301 : decode cX12_step 301 = .ok (.goto (-53), 3) := by decide +kernel
theorem dX12_step_304 : decode cX12_step 304 = .ok (.return_, 1) := by decide +kernel
theorem dX12_tried_0 : decode cX12_tried 0 = .ok (.aload_n 0, 1) := by decide +kernel
theorem dX12_tried_1 : decode cX12_tried 1 = .ok (.iconst 0, 1) := by decide +kernel
theorem dX12_tried_2 : decode cX12_tried 2 = .ok (.putfield 204, 3) := by decide +kernel
theorem dX12_tried_5 : decode cX12_tried 5 = .ok (.aload_n 0, 1) := by decide +kernel
theorem dX12_tried_6 : decode cX12_tried 6 = .ok (.iload_n 1, 1) := by decide +kernel
theorem dX12_tried_7 : decode cX12_tried 7 = .ok (.invokevirtual 266, 3) := by decide +kernel
theorem dX12_tried_10 : decode cX12_tried 10 = .ok (.ifCond .eq 14, 3) := by decide +kernel
theorem dX12_tried_13 : decode cX12_tried 13 = .ok (.aload_n 0, 1) := by decide +kernel
theorem dX12_tried_14 : decode cX12_tried 14 = .ok (.getfield 183, 3) := by decide +kernel
theorem dX12_tried_17 : decode cX12_tried 17 = .ok (.aload_n 0, 1) := by decide +kernel
theorem dX12_tried_18 : decode cX12_tried 18 = .ok (.getfield 218, 3) := by decide +kernel
theorem dX12_tried_21 : decode cX12_tried 21 = .ok (.if_icmp .ne 5, 3) := by decide +kernel
theorem dX12_tried_24 : decode cX12_tried 24 = .ok (.iconst (-1), 1) := by decide +kernel
theorem dX12_tried_25 : decode cX12_tried 25 = .ok (.ireturn, 1) := by decide +kernel
theorem dX12_tried_26 : decode cX12_tried 26 = .ok (.aload_n 0, 1) := by decide +kernel
theorem dX12_tried_27 : decode cX12_tried 27 = .ok (.iconst 0, 1) := by decide +kernel
theorem dX12_tried_28 : decode cX12_tried 28 = .ok (.putfield 474, 3) := by decide +kernel
theorem dX12_tried_31 : decode cX12_tried 31 = .ok (.aload_n 0, 1) := by decide +kernel
theorem dX12_tried_32 : decode cX12_tried 32 = .ok (.getfield 272, 3) := by decide +kernel
theorem dX12_tried_35 : decode cX12_tried 35 = .ok (.istore_n 2, 1) := by decide +kernel
theorem dX12_tried_36 : decode cX12_tried 36 = .ok (.aload_n 0, 1) := by decide +kernel
theorem dX12_tried_37 : decode cX12_tried 37 = .ok (.aload_n 0, 1) := by decide +kernel
theorem dX12_tried_38 : decode cX12_tried 38 = .ok (.getfield 37, 3) := by decide +kernel
theorem dX12_tried_41 : decode cX12_tried 41 = .ok (.aload_n 0, 1) := by decide +kernel
theorem dX12_tried_42 : decode cX12_tried 42 = .ok (.getfield 254, 3) := by decide +kernel
theorem dX12_tried_45 : decode cX12_tried 45 = .ok (.invokevirtual 477, 3) := by decide +kernel
theorem dX12_tried_48 : decode cX12_tried 48 = .ok (.aload_n 0, 1) := by decide +kernel
theorem dX12_tried_49 : decode cX12_tried 49 = .ok (.aload_n 0, 1) := by decide +kernel
theorem dX12_tried_50 : decode cX12_tried 50 = .ok (.getfield 40, 3) := by decide +kernel
theorem dX12_tried_53 : decode cX12_tried 53 = .ok (.aload_n 0, 1) := by decide +kernel
theorem dX12_tried_54 : decode cX12_tried 54 = .ok (.getfield 254, 3) := by decide +kernel
theorem dX12_tried_57 : decode cX12_tried 57 = .ok (.invokevirtual 477, 3) := by decide +kernel
theorem dX12_tried_60 : decode cX12_tried 60 = .ok (.aload_n 0, 1) := by decide +kernel
theorem dX12_tried_61 : decode cX12_tried 61 = .ok (.aload_n 0, 1) := by decide +kernel
theorem dX12_tried_62 : decode cX12_tried 62 = .ok (.getfield 46, 3) := by decide +kernel
theorem dX12_tried_65 : decode cX12_tried 65 = .ok (.aload_n 0, 1) := by decide +kernel
theorem dX12_tried_66 : decode cX12_tried 66 = .ok (.getfield 254, 3) := by decide +kernel
theorem dX12_tried_69 : decode cX12_tried 69 = .ok (.invokevirtual 477, 3) := by decide +kernel
theorem dX12_tried_72 : decode cX12_tried 72 = .ok (.aload_n 0, 1) := by decide +kernel
theorem dX12_tried_73 : decode cX12_tried 73 = .ok (.aload_n 0, 1) := by decide +kernel
theorem dX12_tried_74 : decode cX12_tried 74 = .ok (.getfield 147, 3) := by decide +kernel
theorem dX12_tried_77 : decode cX12_tried 77 = .ok (.aload_n 0, 1) := by decide +kernel
theorem dX12_tried_78 : decode cX12_tried 78 = .ok (.getfield 254, 3) := by decide +kernel
theorem dX12_tried_81 : decode cX12_tried 81 = .ok (.invokevirtual 477, 3) := by decide +kernel
theorem dX12_tried_84 : decode cX12_tried 84 = .ok (.aload_n 0, 1) := by decide +kernel
theorem dX12_tried_85 : decode cX12_tried 85 = .ok (.aload_n 0, 1) := by decide +kernel
theorem dX12_tried_86 : decode cX12_tried 86 = .ok (.getfield 150, 3) := by decide +kernel
theorem dX12_tried_89 : decode cX12_tried 89 = .ok (.aload_n 0, 1) := by decide +kernel
theorem dX12_tried_90 : decode cX12_tried 90 = .ok (.getfield 254, 3) := by decide +kernel
theorem dX12_tried_93 : decode cX12_tried 93 = .ok (.invokevirtual 477, 3) := by decide +kernel
theorem dX12_tried_96 : decode cX12_tried 96 = .ok (.aload_n 0, 1) := by decide +kernel
theorem dX12_tried_97 : decode cX12_tried 97 = .ok (.aload_n 0, 1) := by decide +kernel
theorem dX12_tried_98 : decode cX12_tried 98 = .ok (.getfield 153, 3) := by decide +kernel
theorem dX12_tried_101 : decode cX12_tried 101 = .ok (.aload_n 0, 1) := by decide +kernel
theorem dX12_tried_102 : decode cX12_tried 102 = .ok (.getfield 254, 3) := by decide +kernel
theorem dX12_tried_105 : decode cX12_tried 105 = .ok (.invokevirtual 477, 3) := by decide +kernel
theorem dX12_tried_108 : decode cX12_tried 108 = .ok (.aload_n 0, 1) := by decide +kernel
theorem dX12_tried_109 : decode cX12_tried 109 = .ok (.aload_n 0, 1) := by decide +kernel
theorem dX12_tried_110 : decode cX12_tried 110 = .ok (.getfield 156, 3) := by decide +kernel
theorem dX12_tried_113 : decode cX12_tried 113 = .ok (.aload_n 0, 1) := by decide +kernel
theorem dX12_tried_114 : decode cX12_tried 114 = .ok (.getfield 254, 3) := by decide +kernel
theorem dX12_tried_117 : decode cX12_tried 117 = .ok (.invokevirtual 477, 3) := by decide +kernel
theorem dX12_tried_120 : decode cX12_tried 120 = .ok (.aload_n 0, 1) := by decide +kernel
theorem dX12_tried_121 : decode cX12_tried 121 = .ok (.aload_n 0, 1) := by decide +kernel
theorem dX12_tried_122 : decode cX12_tried 122 = .ok (.getfield 64, 3) := by decide +kernel
theorem dX12_tried_125 : decode cX12_tried 125 = .ok (.aload_n 0, 1) := by decide +kernel
theorem dX12_tried_126 : decode cX12_tried 126 = .ok (.getfield 263, 3) := by decide +kernel
theorem dX12_tried_129 : decode cX12_tried 129 = .ok (.invokevirtual 477, 3) := by decide +kernel
theorem dX12_tried_132 : decode cX12_tried 132 = .ok (.aload_n 0, 1) := by decide +kernel
theorem dX12_tried_133 : decode cX12_tried 133 = .ok (.aload_n 0, 1) := by decide +kernel
theorem dX12_tried_134 : decode cX12_tried 134 = .ok (.getfield 159, 3) := by decide +kernel
theorem dX12_tried_137 : decode cX12_tried 137 = .ok (.aload_n 0, 1) := by decide +kernel
theorem dX12_tried_138 : decode cX12_tried 138 = .ok (.getfield 263, 3) := by decide +kernel
theorem dX12_tried_141 : decode cX12_tried 141 = .ok (.invokevirtual 477, 3) := by decide +kernel
theorem dX12_tried_144 : decode cX12_tried 144 = .ok (.aload_n 0, 1) := by decide +kernel
theorem dX12_tried_145 : decode cX12_tried 145 = .ok (.aload_n 0, 1) := by decide +kernel
theorem dX12_tried_146 : decode cX12_tried 146 = .ok (.getfield 165, 3) := by decide +kernel
theorem dX12_tried_149 : decode cX12_tried 149 = .ok (.aload_n 0, 1) := by decide +kernel
theorem dX12_tried_150 : decode cX12_tried 150 = .ok (.getfield 263, 3) := by decide +kernel
theorem dX12_tried_153 : decode cX12_tried 153 = .ok (.invokevirtual 477, 3) := by decide +kernel
theorem dX12_tried_156 : decode cX12_tried 156 = .ok (.aload_n 0, 1) := by decide +kernel
theorem dX12_tried_157 : decode cX12_tried 157 = .ok (.aload_n 0, 1) := by decide +kernel
theorem dX12_tried_158 : decode cX12_tried 158 = .ok (.getfield 168, 3) := by decide +kernel
theorem dX12_tried_161 : decode cX12_tried 161 = .ok (.aload_n 0, 1) := by decide +kernel
theorem dX12_tried_162 : decode cX12_tried 162 = .ok (.getfield 263, 3) := by decide +kernel
theorem dX12_tried_165 : decode cX12_tried 165 = .ok (.invokevirtual 477, 3) := by decide +kernel
theorem dX12_tried_168 : decode cX12_tried 168 = .ok (.aload_n 0, 1) := by decide +kernel
theorem dX12_tried_169 : decode cX12_tried 169 = .ok (.iload_n 1, 1) := by decide +kernel
theorem dX12_tried_170 : decode cX12_tried 170 = .ok (.invokevirtual 468, 3) := by decide +kernel
theorem dX12_tried_173 : decode cX12_tried 173 = .ok (.aload_n 0, 1) := by decide +kernel
theorem dX12_tried_174 : decode cX12_tried 174 = .ok (.invokevirtual 471, 3) := by decide +kernel
theorem dX12_tried_177 : decode cX12_tried 177 = .ok (.istore_n 3, 1) := by decide +kernel
theorem dX12_tried_178 : decode cX12_tried 178 = .ok (.aload_n 0, 1) := by decide +kernel
theorem dX12_tried_179 : decode cX12_tried 179 = .ok (.iconst 0, 1) := by decide +kernel
theorem dX12_tried_180 : decode cX12_tried 180 = .ok (.putfield 474, 3) := by decide +kernel
theorem dX12_tried_183 : decode cX12_tried 183 = .ok (.aload_n 0, 1) := by decide +kernel
theorem dX12_tried_184 : decode cX12_tried 184 = .ok (.iload_n 2, 1) := by decide +kernel
theorem dX12_tried_185 : decode cX12_tried 185 = .ok (.putfield 272, 3) := by decide +kernel
theorem dX12_tried_188 : decode cX12_tried 188 = .ok (.aload_n 0, 1) := by decide +kernel
theorem dX12_tried_189 : decode cX12_tried 189 = .ok (.aload_n 0, 1) := by decide +kernel
theorem dX12_tried_190 : decode cX12_tried 190 = .ok (.getfield 37, 3) := by decide +kernel
theorem dX12_tried_193 : decode cX12_tried 193 = .ok (.aload_n 0, 1) := by decide +kernel
theorem dX12_tried_194 : decode cX12_tried 194 = .ok (.getfield 254, 3) := by decide +kernel
theorem dX12_tried_197 : decode cX12_tried 197 = .ok (.invokevirtual 481, 3) := by decide +kernel
theorem dX12_tried_200 : decode cX12_tried 200 = .ok (.aload_n 0, 1) := by decide +kernel
theorem dX12_tried_201 : decode cX12_tried 201 = .ok (.aload_n 0, 1) := by decide +kernel
theorem dX12_tried_202 : decode cX12_tried 202 = .ok (.getfield 40, 3) := by decide +kernel
theorem dX12_tried_205 : decode cX12_tried 205 = .ok (.aload_n 0, 1) := by decide +kernel
theorem dX12_tried_206 : decode cX12_tried 206 = .ok (.getfield 254, 3) := by decide +kernel
theorem dX12_tried_209 : decode cX12_tried 209 = .ok (.invokevirtual 481, 3) := by decide +kernel
theorem dX12_tried_212 : decode cX12_tried 212 = .ok (.aload_n 0, 1) := by decide +kernel
theorem dX12_tried_213 : decode cX12_tried 213 = .ok (.aload_n 0, 1) := by decide +kernel
theorem dX12_tried_214 : decode cX12_tried 214 = .ok (.getfield 46, 3) := by decide +kernel
theorem dX12_tried_217 : decode cX12_tried 217 = .ok (.aload_n 0, 1) := by decide +kernel
theorem dX12_tried_218 : decode cX12_tried 218 = .ok (.getfield 254, 3) := by decide +kernel
theorem dX12_tried_221 : decode cX12_tried 221 = .ok (.invokevirtual 481, 3) := by decide +kernel
theorem dX12_tried_224 : decode cX12_tried 224 = .ok (.aload_n 0, 1) := by decide +kernel
theorem dX12_tried_225 : decode cX12_tried 225 = .ok (.aload_n 0, 1) := by decide +kernel
theorem dX12_tried_226 : decode cX12_tried 226 = .ok (.getfield 147, 3) := by decide +kernel
theorem dX12_tried_229 : decode cX12_tried 229 = .ok (.aload_n 0, 1) := by decide +kernel
theorem dX12_tried_230 : decode cX12_tried 230 = .ok (.getfield 254, 3) := by decide +kernel
theorem dX12_tried_233 : decode cX12_tried 233 = .ok (.invokevirtual 481, 3) := by decide +kernel
theorem dX12_tried_236 : decode cX12_tried 236 = .ok (.aload_n 0, 1) := by decide +kernel
theorem dX12_tried_237 : decode cX12_tried 237 = .ok (.aload_n 0, 1) := by decide +kernel
theorem dX12_tried_238 : decode cX12_tried 238 = .ok (.getfield 150, 3) := by decide +kernel
theorem dX12_tried_241 : decode cX12_tried 241 = .ok (.aload_n 0, 1) := by decide +kernel
theorem dX12_tried_242 : decode cX12_tried 242 = .ok (.getfield 254, 3) := by decide +kernel
theorem dX12_tried_245 : decode cX12_tried 245 = .ok (.invokevirtual 481, 3) := by decide +kernel
theorem dX12_tried_248 : decode cX12_tried 248 = .ok (.aload_n 0, 1) := by decide +kernel
theorem dX12_tried_249 : decode cX12_tried 249 = .ok (.aload_n 0, 1) := by decide +kernel
theorem dX12_tried_250 : decode cX12_tried 250 = .ok (.getfield 153, 3) := by decide +kernel
theorem dX12_tried_253 : decode cX12_tried 253 = .ok (.aload_n 0, 1) := by decide +kernel
theorem dX12_tried_254 : decode cX12_tried 254 = .ok (.getfield 254, 3) := by decide +kernel
theorem dX12_tried_257 : decode cX12_tried 257 = .ok (.invokevirtual 481, 3) := by decide +kernel
theorem dX12_tried_260 : decode cX12_tried 260 = .ok (.aload_n 0, 1) := by decide +kernel
theorem dX12_tried_261 : decode cX12_tried 261 = .ok (.aload_n 0, 1) := by decide +kernel
theorem dX12_tried_262 : decode cX12_tried 262 = .ok (.getfield 156, 3) := by decide +kernel
theorem dX12_tried_265 : decode cX12_tried 265 = .ok (.aload_n 0, 1) := by decide +kernel
theorem dX12_tried_266 : decode cX12_tried 266 = .ok (.getfield 254, 3) := by decide +kernel
theorem dX12_tried_269 : decode cX12_tried 269 = .ok (.invokevirtual 481, 3) := by decide +kernel
theorem dX12_tried_272 : decode cX12_tried 272 = .ok (.aload_n 0, 1) := by decide +kernel
theorem dX12_tried_273 : decode cX12_tried 273 = .ok (.aload_n 0, 1) := by decide +kernel
theorem dX12_tried_274 : decode cX12_tried 274 = .ok (.getfield 64, 3) := by decide +kernel
theorem dX12_tried_277 : decode cX12_tried 277 = .ok (.aload_n 0, 1) := by decide +kernel
theorem dX12_tried_278 : decode cX12_tried 278 = .ok (.getfield 263, 3) := by decide +kernel
theorem dX12_tried_281 : decode cX12_tried 281 = .ok (.invokevirtual 481, 3) := by decide +kernel
theorem dX12_tried_284 : decode cX12_tried 284 = .ok (.aload_n 0, 1) := by decide +kernel
theorem dX12_tried_285 : decode cX12_tried 285 = .ok (.aload_n 0, 1) := by decide +kernel
theorem dX12_tried_286 : decode cX12_tried 286 = .ok (.getfield 159, 3) := by decide +kernel
theorem dX12_tried_289 : decode cX12_tried 289 = .ok (.aload_n 0, 1) := by decide +kernel
theorem dX12_tried_290 : decode cX12_tried 290 = .ok (.getfield 263, 3) := by decide +kernel
theorem dX12_tried_293 : decode cX12_tried 293 = .ok (.invokevirtual 481, 3) := by decide +kernel
theorem dX12_tried_296 : decode cX12_tried 296 = .ok (.aload_n 0, 1) := by decide +kernel
theorem dX12_tried_297 : decode cX12_tried 297 = .ok (.aload_n 0, 1) := by decide +kernel
theorem dX12_tried_298 : decode cX12_tried 298 = .ok (.getfield 165, 3) := by decide +kernel
theorem dX12_tried_301 : decode cX12_tried 301 = .ok (.aload_n 0, 1) := by decide +kernel
theorem dX12_tried_302 : decode cX12_tried 302 = .ok (.getfield 263, 3) := by decide +kernel
theorem dX12_tried_305 : decode cX12_tried 305 = .ok (.invokevirtual 481, 3) := by decide +kernel
theorem dX12_tried_308 : decode cX12_tried 308 = .ok (.aload_n 0, 1) := by decide +kernel
theorem dX12_tried_309 : decode cX12_tried 309 = .ok (.aload_n 0, 1) := by decide +kernel
theorem dX12_tried_310 : decode cX12_tried 310 = .ok (.getfield 168, 3) := by decide +kernel
theorem dX12_tried_313 : decode cX12_tried 313 = .ok (.aload_n 0, 1) := by decide +kernel
theorem dX12_tried_314 : decode cX12_tried 314 = .ok (.getfield 263, 3) := by decide +kernel
theorem dX12_tried_317 : decode cX12_tried 317 = .ok (.invokevirtual 481, 3) := by decide +kernel
theorem dX12_tried_320 : decode cX12_tried 320 = .ok (.iload_n 3, 1) := by decide +kernel
theorem dX12_tried_321 : decode cX12_tried 321 = .ok (.ireturn, 1) := by decide +kernel
