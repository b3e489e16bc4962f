theorem dX12_goThrough_0 : decode cX12_goThrough 0 = .ok (.aload_n 0, 1) := by decide +kernel
theorem dX12_goThrough_1 : decode cX12_goThrough 1 = .ok (.iload_n 1, 1) := by decide +kernel
theorem dX12_goThrough_2 : decode cX12_goThrough 2 = .ok (.putfield 423, 3) := by decide +kernel
theorem dX12_goThrough_5 : decode cX12_goThrough 5 = .ok (.iconst 0, 1) := by decide +kernel
theorem dX12_goThrough_6 : decode cX12_goThrough 6 = .ok (.istore_n 2, 1) := by decide +kernel
theorem dX12_goThrough_7 : decode cX12_goThrough 7 = .ok (.iload_n 2, 1) := by decide +kernel
theorem dX12_goThrough_8 : decode cX12_goThrough 8 = .ok (.aload_n 0, 1) := by decide +kernel
theorem dX12_goThrough_9 : decode cX12_goThrough 9 = .ok (.getfield 263, 3) := by decide +kernel
theorem dX12_goThrough_12 : decode cX12_goThrough 12 = .ok (.if_icmp .ge 42, 3) := by decide +kernel
theorem dX12_goThrough_15 : decode cX12_goThrough 15 = .ok (.aload_n 0, 1) := by decide +kernel
theorem dX12_goThrough_16 : decode cX12_goThrough 16 = .ok (.getfield 159, 3) := by decide +kernel
theorem dX12_goThrough_19 : decode cX12_goThrough 19 = .ok (.iload_n 2, 1) := by decide +kernel
theorem dX12_goThrough_20 : decode cX12_goThrough 20 = .ok (.aload_n 0, 1) := by decide +kernel
theorem dX12_goThrough_21 : decode cX12_goThrough 21 = .ok (.getfield 55, 3) := by decide +kernel
theorem dX12_goThrough_24 : decode cX12_goThrough 24 = .ok (.iload_n 2, 1) := by decide +kernel
theorem dX12_goThrough_25 : decode cX12_goThrough 25 = .ok (.iaload, 1) := by decide +kernel
theorem dX12_goThrough_26 : decode cX12_goThrough 26 = .ok (.iastore, 1) := by decide +kernel
theorem dX12_goThrough_27 : decode cX12_goThrough 27 = .ok (.aload_n 0, 1) := by decide +kernel
theorem dX12_goThrough_28 : decode cX12_goThrough 28 = .ok (.getfield 162, 3) := by decide +kernel
theorem dX12_goThrough_31 : decode cX12_goThrough 31 = .ok (.iload_n 2, 1) := by decide +kernel
theorem dX12_goThrough_32 : decode cX12_goThrough 32 = .ok (.iconst (-1), 1) := by decide +kernel
theorem dX12_goThrough_33 : decode cX12_goThrough 33 = .ok (.iastore, 1) := by decide +kernel
theorem dX12_goThrough_34 : decode cX12_goThrough 34 = .ok (.aload_n 0, 1) := by decide +kernel
theorem dX12_goThrough_35 : decode cX12_goThrough 35 = .ok (.getfield 165, 3) := by decide +kernel
theorem dX12_goThrough_38 : decode cX12_goThrough 38 = .ok (.iload_n 2, 1) := by decide +kernel
theorem dX12_goThrough_39 : decode cX12_goThrough 39 = .ok (.iconst 0, 1) := by decide +kernel
theorem dX12_goThrough_40 : decode cX12_goThrough 40 = .ok (.iastore, 1) := by decide +kernel
theorem dX12_goThrough_41 : decode cX12_goThrough 41 = .ok (.aload_n 0, 1) := by decide +kernel
theorem dX12_goThrough_42 : decode cX12_goThrough 42 = .ok (.getfield 168, 3) := by decide +kernel
theorem dX12_goThrough_45 : decode cX12_goThrough 45 = .ok (.iload_n 2, 1) := by decide +kernel
theorem dX12_goThrough_46 : decode cX12_goThrough 46 = .ok (.iconst 0, 1) := by decide +kernel
theorem dX12_goThrough_47 : decode cX12_goThrough 47 = .ok (.iastore, 1) := by decide +kernel
theorem dX12_goThrough_48 : decode cX12_goThrough 48 = .ok (.iinc 2 1, 3) := by decide +kernel
theorem dX12_goThrough_51 : decode cX12_goThrough 51 = .ok (.goto (-44), 3) := by decide +kernel
theorem dX12_goThrough_54 : decode cX12_goThrough 54 = .ok (.iconst 0, 1) := by decide +kernel
theorem dX12_goThrough_55 : decode cX12_goThrough 55 = .ok (.istore_n 2, 1) := by decide +kernel
theorem dX12_goThrough_56 : decode cX12_goThrough 56 = .ok (.iload_n 2, 1) := by decide +kernel
theorem dX12_goThrough_57 : decode cX12_goThrough 57 = .ok (.aload_n 0, 1) := by decide +kernel
theorem dX12_goThrough_58 : decode cX12_goThrough 58 = .ok (.getfield 254, 3) := by decide +kernel
theorem dX12_goThrough_61 : decode cX12_goThrough 61 = .ok (.if_icmp .ge 49, 3) := by decide +kernel
theorem dX12_goThrough_64 : decode cX12_goThrough 64 = .ok (.aload_n 0, 1) := by decide +kernel
theorem dX12_goThrough_65 : decode cX12_goThrough 65 = .ok (.getfield 135, 3) := by decide +kernel
theorem dX12_goThrough_68 : decode cX12_goThrough 68 = .ok (.iload_n 2, 1) := by decide +kernel
theorem dX12_goThrough_69 : decode cX12_goThrough 69 = .ok (.iconst 0, 1) := by decide +kernel
theorem dX12_goThrough_70 : decode cX12_goThrough 70 = .ok (.iastore, 1) := by decide +kernel
theorem dX12_goThrough_71 : decode cX12_goThrough 71 = .ok (.aload_n 0, 1) := by decide +kernel
theorem dX12_goThrough_72 : decode cX12_goThrough 72 = .ok (.getfield 138, 3) := by decide +kernel
theorem dX12_goThrough_75 : decode cX12_goThrough 75 = .ok (.iload_n 2, 1) := by decide +kernel
theorem dX12_goThrough_76 : decode cX12_goThrough 76 = .ok (.aload_n 0, 1) := by decide +kernel
theorem dX12_goThrough_77 : decode cX12_goThrough 77 = .ok (.getfield 19, 3) := by decide +kernel
theorem dX12_goThrough_80 : decode cX12_goThrough 80 = .ok (.iload_n 2, 1) := by decide +kernel
theorem dX12_goThrough_81 : decode cX12_goThrough 81 = .ok (.iaload, 1) := by decide +kernel
theorem dX12_goThrough_82 : decode cX12_goThrough 82 = .ok (.iastore, 1) := by decide +kernel
theorem dX12_goThrough_83 : decode cX12_goThrough 83 = .ok (.aload_n 0, 1) := by decide +kernel
theorem dX12_goThrough_84 : decode cX12_goThrough 84 = .ok (.getfield 147, 3) := by decide +kernel
theorem dX12_goThrough_87 : decode cX12_goThrough 87 = .ok (.iload_n 2, 1) := by decide +kernel
theorem dX12_goThrough_88 : decode cX12_goThrough 88 = .ok (.iconst (-1), 1) := by decide +kernel
theorem dX12_goThrough_89 : decode cX12_goThrough 89 = .ok (.iastore, 1) := by decide +kernel
theorem dX12_goThrough_90 : decode cX12_goThrough 90 = .ok (.aload_n 0, 1) := by decide +kernel
theorem dX12_goThrough_91 : decode cX12_goThrough 91 = .ok (.getfield 153, 3) := by decide +kernel
theorem dX12_goThrough_94 : decode cX12_goThrough 94 = .ok (.iload_n 2, 1) := by decide +kernel
theorem dX12_goThrough_95 : decode cX12_goThrough 95 = .ok (.iconst 0, 1) := by decide +kernel
theorem dX12_goThrough_96 : decode cX12_goThrough 96 = .ok (.iastore, 1) := by decide +kernel
theorem dX12_goThrough_97 : decode cX12_goThrough 97 = .ok (.aload_n 0, 1) := by decide +kernel
theorem dX12_goThrough_98 : decode cX12_goThrough 98 = .ok (.getfield 156, 3) := by decide +kernel
theorem dX12_goThrough_101 : decode cX12_goThrough 101 = .ok (.iload_n 2, 1) := by decide +kernel
theorem dX12_goThrough_102 : decode cX12_goThrough 102 = .ok (.iconst 0, 1) := by decide +kernel
theorem dX12_goThrough_103 : decode cX12_goThrough 103 = .ok (.iastore, 1) := by decide +kernel
theorem dX12_goThrough_104 : decode cX12_goThrough 104 = .ok (.iinc 2 1, 3) := by decide +kernel
theorem dX12_goThrough_107 : decode cX12_goThrough 107 = .ok (.goto (-51), 3) := by decide +kernel
theorem dX12_goThrough_110 : decode cX12_goThrough 110 = .ok (.iconst 0, 1) := by decide +kernel
theorem dX12_goThrough_111 : decode cX12_goThrough 111 = .ok (.istore_n 2, 1) := by decide +kernel
theorem dX12_goThrough_112 : decode cX12_goThrough 112 = .ok (.iload_n 2, 1) := by decide +kernel
theorem dX12_goThrough_113 : decode cX12_goThrough 113 = .ok (.aload_n 0, 1) := by decide +kernel
theorem dX12_goThrough_114 : decode cX12_goThrough 114 = .ok (.getfield 269, 3) := by decide +kernel
theorem dX12_goThrough_117 : decode cX12_goThrough 117 = .ok (.if_icmp .ge 16, 3) := by decide +kernel
theorem dX12_goThrough_120 : decode cX12_goThrough 120 = .ok (.aload_n 0, 1) := by decide +kernel
theorem dX12_goThrough_121 : decode cX12_goThrough 121 = .ok (.getfield 171, 3) := by decide +kernel
theorem dX12_goThrough_124 : decode cX12_goThrough 124 = .ok (.iload_n 2, 1) := by decide +kernel
theorem dX12_goThrough_125 : decode cX12_goThrough 125 = .ok (.iconst (-1), 1) := by decide +kernel
theorem dX12_goThrough_126 : decode cX12_goThrough 126 = .ok (.iastore, 1) := by decide +kernel
theorem dX12_goThrough_127 : decode cX12_goThrough 127 = .ok (.iinc 2 1, 3) := by decide +kernel
theorem dX12_goThrough_130 : decode cX12_goThrough 130 = .ok (.goto (-18), 3) := by decide +kernel
theorem dX12_goThrough_133 : decode cX12_goThrough 133 = .ok (.aload_n 0, 1) := by decide +kernel
theorem dX12_goThrough_134 : decode cX12_goThrough 134 = .ok (.invokevirtual 462, 3) := by decide +kernel
theorem dX12_goThrough_137 : decode cX12_goThrough 137 = .ok (.aload_n 0, 1) := by decide +kernel
theorem dX12_goThrough_138 : decode cX12_goThrough 138 = .ok (.iconst 0, 1) := by decide +kernel
theorem dX12_goThrough_139 : decode cX12_goThrough 139 = .ok (.putfield 443, 3) := by decide +kernel
theorem dX12_goThrough_142 : decode cX12_goThrough 142 = .ok (.aload_n 0, 1) := by decide +kernel
theorem dX12_goThrough_143 : decode cX12_goThrough 143 = .ok (.getfield 443, 3) := by decide +kernel
theorem dX12_goThrough_146 : decode cX12_goThrough 146 = .ok (.sipush 839, 3) := by decide +kernel
theorem dX12_goThrough_149 : decode cX12_goThrough 149 = .ok (.if_icmp .gt 20, 3) := by decide +kernel
theorem dX12_goThrough_152 : decode cX12_goThrough 152 = .ok (.aload_n 0, 1) := by decide +kernel
theorem dX12_goThrough_153 : decode cX12_goThrough 153 = .ok (.invokevirtual 465, 3) := by decide +kernel
theorem dX12_goThrough_156 : decode cX12_goThrough 156 = .ok (.aload_n 0, 1) := by decide +kernel
theorem dX12_goThrough_157 : decode cX12_goThrough 157 = .ok (.dup, 1) := by decide +kernel
theorem dX12_goThrough_158 : decode cX12_goThrough 158 = .ok (.getfield 443, 3) := by decide +kernel
theorem dX12_goThrough_161 : decode cX12_goThrough 161 = .ok (.iconst 1, 1) := by decide +kernel
theorem dX12_goThrough_162 : decode cX12_goThrough 162 = .ok (.iadd, 1) := by decide +kernel
theorem dX12_goThrough_163 : decode cX12_goThrough 163 = .ok (.putfield 443, 3) := by decide +kernel
theorem dX12_goThrough_166 : decode cX12_goThrough 166 = .ok (.goto (-24), 3) := by decide +kernel
theorem dX12_goThrough_169 : decode cX12_goThrough 169 = .ok (.aload_n 0, 1) := by decide +kernel
theorem dX12_goThrough_170 : decode cX12_goThrough 170 = .ok (.invokevirtual 403, 3) := by decide +kernel
theorem dX12_goThrough_173 : decode cX12_goThrough 173 = .ok (.istore_n 2, 1) := by decide +kernel
theorem dX12_goThrough_174 : decode cX12_goThrough 174 = .ok (.iconst 0, 1) := by decide +kernel
theorem dX12_goThrough_175 : decode cX12_goThrough 175 = .ok (.istore_n 3, 1) := by decide +kernel
theorem dX12_goThrough_176 : decode cX12_goThrough 176 = .ok (.iload_n 3, 1) := by decide +kernel
theorem dX12_goThrough_177 : decode cX12_goThrough 177 = .ok (.aload_n 0, 1) := by decide +kernel
theorem dX12_goThrough_178 : decode cX12_goThrough 178 = .ok (.getfield 254, 3) := by decide +kernel
theorem dX12_goThrough_181 : decode cX12_goThrough 181 = .ok (.if_icmp .ge 143, 3) := by decide +kernel
theorem dX12_goThrough_184 : decode cX12_goThrough 184 = .ok (.aload_n 0, 1) := by decide +kernel
theorem dX12_goThrough_185 : decode cX12_goThrough 185 = .ok (.getfield 150, 3) := by decide +kernel
theorem dX12_goThrough_188 : decode cX12_goThrough 188 = .ok (.iload_n 3, 1) := by decide +kernel
theorem dX12_goThrough_189 : decode cX12_goThrough 189 = .ok (.aload_n 0, 1) := by decide +kernel
theorem dX12_goThrough_190 : decode cX12_goThrough 190 = .ok (.getfield 147, 3) := by decide +kernel
theorem dX12_goThrough_193 : decode cX12_goThrough 193 = .ok (.iload_n 3, 1) := by decide +kernel
theorem dX12_goThrough_194 : decode cX12_goThrough 194 = .ok (.iaload, 1) := by decide +kernel
theorem dX12_goThrough_195 : decode cX12_goThrough 195 = .ok (.iconst (-1), 1) := by decide +kernel
theorem dX12_goThrough_196 : decode cX12_goThrough 196 = .ok (.if_icmp .ne 16, 3) := by decide +kernel
theorem dX12_goThrough_199 : decode cX12_goThrough 199 = .ok (.sipush 840, 3) := by decide +kernel
theorem dX12_goThrough_202 : decode cX12_goThrough 202 = .ok (.aload_n 0, 1) := by decide +kernel
theorem dX12_goThrough_203 : decode cX12_goThrough 203 = .ok (.getfield 31, 3) := by decide +kernel
theorem dX12_goThrough_206 : decode cX12_goThrough 206 = .ok (.iload_n 3, 1) := by decide +kernel
theorem dX12_goThrough_207 : decode cX12_goThrough 207 = .ok (.iaload, 1) := by decide +kernel
theorem dX12_goThrough_208 : decode cX12_goThrough 208 = .ok (.isub, 1) := by decide +kernel
theorem dX12_goThrough_209 : decode cX12_goThrough 209 = .ok (.goto 35, 3) := by decide +kernel
theorem dX12_goThrough_212 : decode cX12_goThrough 212 = .ok (.aload_n 0, 1) := by decide +kernel
theorem dX12_goThrough_213 : decode cX12_goThrough 213 = .ok (.getfield 147, 3) := by decide +kernel
theorem dX12_goThrough_216 : decode cX12_goThrough 216 = .ok (.iload_n 3, 1) := by decide +kernel
theorem dX12_goThrough_217 : decode cX12_goThrough 217 = .ok (.iaload, 1) := by decide +kernel
theorem dX12_goThrough_218 : decode cX12_goThrough 218 = .ok (.aload_n 0, 1) := by decide +kernel
theorem dX12_goThrough_219 : decode cX12_goThrough 219 = .ok (.getfield 31, 3) := by decide +kernel
theorem dX12_goThrough_222 : decode cX12_goThrough 222 = .ok (.iload_n 3, 1) := by decide +kernel
theorem dX12_goThrough_223 : decode cX12_goThrough 223 = .ok (.iaload, 1) := by decide +kernel
theorem dX12_goThrough_224 : decode cX12_goThrough 224 = .ok (.if_icmp .le 19, 3) := by decide +kernel
theorem dX12_goThrough_227 : decode cX12_goThrough 227 = .ok (.aload_n 0, 1) := by decide +kernel
theorem dX12_goThrough_228 : decode cX12_goThrough 228 = .ok (.getfield 147, 3) := by decide +kernel
theorem dX12_goThrough_231 : decode cX12_goThrough 231 = .ok (.iload_n 3, 1) := by decide +kernel
theorem dX12_goThrough_232 : decode cX12_goThrough 232 = .ok (.iaload, 1) := by decide +kernel
theorem dX12_goThrough_233 : decode cX12_goThrough 233 = .ok (.aload_n 0, 1) := by decide +kernel
theorem dX12_goThrough_234 : decode cX12_goThrough 234 = .ok (.getfield 31, 3) := by decide +kernel
theorem dX12_goThrough_237 : decode cX12_goThrough 237 = .ok (.iload_n 3, 1) := by decide +kernel
theorem dX12_goThrough_238 : decode cX12_goThrough 238 = .ok (.iaload, 1) := by decide +kernel
theorem dX12_goThrough_239 : decode cX12_goThrough 239 = .ok (.isub, 1) := by decide +kernel
theorem dX12_goThrough_240 : decode cX12_goThrough 240 = .ok (.goto 4, 3) := by decide +kernel
theorem dX12_goThrough_243 : decode cX12_goThrough 243 = .ok (.iconst 0, 1) := by decide +kernel
theorem dX12_goThrough_244 : decode cX12_goThrough 244 = .ok (.iastore, 1) := by decide +kernel
theorem dX12_goThrough_245 : decode cX12_goThrough 245 = .ok (.aload_n 0, 1) := by decide +kernel
theorem dX12_goThrough_246 : decode cX12_goThrough 246 = .ok (.getfield 25, 3) := by decide +kernel
theorem dX12_goThrough_249 : decode cX12_goThrough 249 = .ok (.iload_n 3, 1) := by decide +kernel
theorem dX12_goThrough_250 : decode cX12_goThrough 250 = .ok (.iaload, 1) := by decide +kernel
theorem dX12_goThrough_251 : decode cX12_goThrough 251 = .ok (.iload_n 2, 1) := by decide +kernel
theorem dX12_goThrough_252 : decode cX12_goThrough 252 = .ok (.iconst (-1), 1) := by decide +kernel
theorem dX12_goThrough_253 : decode cX12_goThrough 253 = .ok (.if_icmp .ne 7, 3) := by decide +kernel
theorem dX12_goThrough_256 : decode cX12_goThrough 256 = .ok (.iconst 0, 1) := by decide +kernel
theorem dX12_goThrough_257 : decode cX12_goThrough 257 = .ok (.goto 9, 3) := by decide +kernel
theorem dX12_goThrough_260 : decode cX12_goThrough 260 = .ok (.aload_n 0, 1) := by decide +kernel
theorem dX12_goThrough_261 : decode cX12_goThrough 261 = .ok (.getfield 91, 3) := by decide +kernel
theorem dX12_goThrough_264 : decode cX12_goThrough 264 = .ok (.iload_n 2, 1) := by decide +kernel
theorem dX12_goThrough_265 : decode cX12_goThrough 265 = .ok (.iaload, 1) := by decide +kernel
theorem dX12_goThrough_266 : decode cX12_goThrough 266 = .ok (.aload_n 0, 1) := by decide +kernel
theorem dX12_goThrough_267 : decode cX12_goThrough 267 = .ok (.getfield 150, 3) := by decide +kernel
theorem dX12_goThrough_270 : decode cX12_goThrough 270 = .ok (.iload_n 3, 1) := by decide +kernel
theorem dX12_goThrough_271 : decode cX12_goThrough 271 = .ok (.iaload, 1) := by decide +kernel
theorem dX12_goThrough_272 : decode cX12_goThrough 272 = .ok (.bipush 10, 2) := by decide +kernel
theorem dX12_goThrough_274 : decode cX12_goThrough 274 = .ok (.idiv, 1) := by decide +kernel
theorem dX12_goThrough_275 : decode cX12_goThrough 275 = .ok (.imul, 1) := by decide +kernel
theorem dX12_goThrough_276 : decode cX12_goThrough 276 = .ok (.isub, 1) := by decide +kernel
theorem dX12_goThrough_277 : decode cX12_goThrough 277 = .ok (.istore 4, 2) := by decide +kernel
theorem dX12_goThrough_279 : decode cX12_goThrough 279 = .ok (.aload_n 0, 1) := by decide +kernel
theorem dX12_goThrough_280 : decode cX12_goThrough 280 = .ok (.getfield 40, 3) := by decide +kernel
theorem dX12_goThrough_283 : decode cX12_goThrough 283 = .ok (.iload_n 3, 1) := by decide +kernel
theorem dX12_goThrough_284 : decode cX12_goThrough 284 = .ok (.dup2, 1) := by decide +kernel
theorem dX12_goThrough_285 : decode cX12_goThrough 285 = .ok (.iaload, 1) := by decide +kernel
theorem dX12_goThrough_286 : decode cX12_goThrough 286 = .ok (.iload 4, 2) := by decide +kernel
theorem dX12_goThrough_288 : decode cX12_goThrough 288 = .ok (.ifCond .ge 7, 3) := by decide +kernel
theorem dX12_goThrough_291 : decode cX12_goThrough 291 = .ok (.iconst 0, 1) := by decide +kernel
theorem dX12_goThrough_292 : decode cX12_goThrough 292 = .ok (.goto 5, 3) := by decide +kernel
theorem dX12_goThrough_295 : decode cX12_goThrough 295 = .ok (.iload 4, 2) := by decide +kernel
theorem dX12_goThrough_297 : decode cX12_goThrough 297 = .ok (.iadd, 1) := by decide +kernel
theorem dX12_goThrough_298 : decode cX12_goThrough 298 = .ok (.iastore, 1) := by decide +kernel
theorem dX12_goThrough_299 : decode cX12_goThrough 299 = .ok (.aload_n 0, 1) := by decide +kernel
theorem dX12_goThrough_300 : decode cX12_goThrough 300 = .ok (.getfield 40, 3) := by decide +kernel
theorem dX12_goThrough_303 : decode cX12_goThrough 303 = .ok (.iload_n 3, 1) := by decide +kernel
theorem dX12_goThrough_304 : decode cX12_goThrough 304 = .ok (.iaload, 1) := by decide +kernel
theorem dX12_goThrough_305 : decode cX12_goThrough 305 = .ok (.ldc 225, 2) := by decide +kernel
theorem dX12_goThrough_307 : decode cX12_goThrough 307 = .ok (.if_icmp .le 11, 3) := by decide +kernel
theorem dX12_goThrough_310 : decode cX12_goThrough 310 = .ok (.aload_n 0, 1) := by decide +kernel
theorem dX12_goThrough_311 : decode cX12_goThrough 311 = .ok (.getfield 40, 3) := by decide +kernel
theorem dX12_goThrough_314 : decode cX12_goThrough 314 = .ok (.iload_n 3, 1) := by decide +kernel
theorem dX12_goThrough_315 : decode cX12_goThrough 315 = .ok (.ldc 225, 2) := by decide +kernel
theorem dX12_goThrough_317 : decode cX12_goThrough 317 = .ok (.iastore, 1) := by decide +kernel
theorem dX12_goThrough_318 : decode cX12_goThrough 318 = .ok (.iinc 3 1, 3) := by decide +kernel
theorem dX12_goThrough_321 : decode cX12_goThrough 321 = .ok (.goto (-145), 3) := by decide +kernel
theorem dX12_goThrough_324 : decode cX12_goThrough 324 = .ok (.aload_n 0, 1) := by decide +kernel
theorem dX12_goThrough_325 : decode cX12_goThrough 325 = .ok (.iconst (-1), 1) := by decide +kernel
theorem dX12_goThrough_326 : decode cX12_goThrough 326 = .ok (.putfield 423, 3) := by decide +kernel
theorem dX12_goThrough_329 : decode cX12_goThrough 329 = .ok (.return_, 1) := by decide +kernel
theorem dX12_keep_0 : decode cX12_keep 0 = .ok (.iconst 0, 1) := by decide +kernel
theorem dX12_keep_1 : decode cX12_keep 1 = .ok (.istore_n 3, 1) := by decide +kernel
theorem dX12_keep_2 : decode cX12_keep 2 = .ok (.iload_n 3, 1) := by decide +kernel
theorem dX12_keep_3 : decode cX12_keep 3 = .ok (.iload_n 2, 1) := by decide +kernel
theorem dX12_keep_4 : decode cX12_keep 4 = .ok (.if_icmp .ge 31, 3) := by decide +kernel
theorem dX12_keep_7 : decode cX12_keep 7 = .ok (.aload_n 0, 1) := by decide +kernel
theorem dX12_keep_8 : decode cX12_keep 8 = .ok (.getfield 186, 3) := by decide +kernel
theorem dX12_keep_11 : decode cX12_keep 11 = .ok (.aload_n 0, 1) := by decide +kernel
theorem dX12_keep_12 : decode cX12_keep 12 = .ok (.getfield 474, 3) := by decide +kernel
theorem dX12_keep_15 : decode cX12_keep 15 = .ok (.aload_n 1, 1) := by decide +kernel
theorem dX12_keep_16 : decode cX12_keep 16 = .ok (.iload_n 3, 1) := by decide +kernel
theorem dX12_keep_17 : decode cX12_keep 17 = .ok (.iaload, 1) := by decide +kernel
theorem dX12_keep_18 : decode cX12_keep 18 = .ok (.iastore, 1) := by decide +kernel
theorem dX12_keep_19 : decode cX12_keep 19 = .ok (.aload_n 0, 1) := by decide +kernel
theorem dX12_keep_20 : decode cX12_keep 20 = .ok (.dup, 1) := by decide +kernel
theorem dX12_keep_21 : decode cX12_keep 21 = .ok (.getfield 474, 3) := by decide +kernel
theorem dX12_keep_24 : decode cX12_keep 24 = .ok (.iconst 1, 1) := by decide +kernel
theorem dX12_keep_25 : decode cX12_keep 25 = .ok (.iadd, 1) := by decide +kernel
theorem dX12_keep_26 : decode cX12_keep 26 = .ok (.putfield 474, 3) := by decide +kernel
theorem dX12_keep_29 : decode cX12_keep 29 = .ok (.iinc 3 1, 3) := by decide +kernel
theorem dX12_keep_32 : decode cX12_keep 32 = .ok (.goto (-30), 3) := by decide +kernel
theorem dX12_keep_35 : decode cX12_keep 35 = .ok (.return_, 1) := by decide +kernel
theorem dX12_leave_0 : decode cX12_leave 0 = .ok (.aload_n 0, 1) := by decide +kernel
theorem dX12_leave_1 : decode cX12_leave 1 = .ok (.getfield 67, 3) := by decide +kernel
theorem dX12_leave_4 : decode cX12_leave 4 = .ok (.iload_n 1, 1) := by decide +kernel
theorem dX12_leave_5 : decode cX12_leave 5 = .ok (.iaload, 1) := by decide +kernel
theorem dX12_leave_6 : decode cX12_leave 6 = .ok (.istore_n 2, 1) := by decide +kernel
theorem dX12_leave_7 : decode cX12_leave 7 = .ok (.aload_n 0, 1) := by decide +kernel
theorem dX12_leave_8 : decode cX12_leave 8 = .ok (.getfield 171, 3) := by decide +kernel
theorem dX12_leave_11 : decode cX12_leave 11 = .ok (.iload_n 1, 1) := by decide +kernel
theorem dX12_leave_12 : decode cX12_leave 12 = .ok (.bipush (-2), 2) := by decide +kernel
theorem dX12_leave_14 : decode cX12_leave 14 = .ok (.iastore, 1) := by decide +kernel
theorem dX12_leave_15 : decode cX12_leave 15 = .ok (.aload_n 0, 1) := by decide +kernel
theorem dX12_leave_16 : decode cX12_leave 16 = .ok (.getfield 168, 3) := by decide +kernel
theorem dX12_leave_19 : decode cX12_leave 19 = .ok (.iload_n 2, 1) := by decide +kernel
theorem dX12_leave_20 : decode cX12_leave 20 = .ok (.iaload, 1) := by decide +kernel
theorem dX12_leave_21 : decode cX12_leave 21 = .ok (.iconst 1, 1) := by decide +kernel
theorem dX12_leave_22 : decode cX12_leave 22 = .ok (.if_icmp .eq 54, 3) := by decide +kernel
theorem dX12_leave_25 : decode cX12_leave 25 = .ok (.aload_n 0, 1) := by decide +kernel
theorem dX12_leave_26 : decode cX12_leave 26 = .ok (.getfield 162, 3) := by decide +kernel
theorem dX12_leave_29 : decode cX12_leave 29 = .ok (.iload_n 2, 1) := by decide +kernel
theorem dX12_leave_30 : decode cX12_leave 30 = .ok (.iaload, 1) := by decide +kernel
theorem dX12_leave_31 : decode cX12_leave 31 = .ok (.iconst (-1), 1) := by decide +kernel
theorem dX12_leave_32 : decode cX12_leave 32 = .ok (.if_icmp .ne 44, 3) := by decide +kernel
theorem dX12_leave_35 : decode cX12_leave 35 = .ok (.aload_n 0, 1) := by decide +kernel
theorem dX12_leave_36 : decode cX12_leave 36 = .ok (.getfield 159, 3) := by decide +kernel
theorem dX12_leave_39 : decode cX12_leave 39 = .ok (.iload_n 2, 1) := by decide +kernel
theorem dX12_leave_40 : decode cX12_leave 40 = .ok (.iaload, 1) := by decide +kernel
theorem dX12_leave_41 : decode cX12_leave 41 = .ok (.aload_n 0, 1) := by decide +kernel
theorem dX12_leave_42 : decode cX12_leave 42 = .ok (.getfield 70, 3) := by decide +kernel
theorem dX12_leave_45 : decode cX12_leave 45 = .ok (.iload_n 1, 1) := by decide +kernel
theorem dX12_leave_46 : decode cX12_leave 46 = .ok (.iaload, 1) := by decide +kernel
theorem dX12_leave_47 : decode cX12_leave 47 = .ok (.if_icmp .ne 29, 3) := by decide +kernel
theorem dX12_leave_50 : decode cX12_leave 50 = .ok (.aload_n 0, 1) := by decide +kernel
theorem dX12_leave_51 : decode cX12_leave 51 = .ok (.iload_n 1, 1) := by decide +kernel
theorem dX12_leave_52 : decode cX12_leave 52 = .ok (.invokevirtual 420, 3) := by decide +kernel
theorem dX12_leave_55 : decode cX12_leave 55 = .ok (.ldc 225, 2) := by decide +kernel
theorem dX12_leave_57 : decode cX12_leave 57 = .ok (.if_icmp .ge 19, 3) := by decide +kernel
theorem dX12_leave_60 : decode cX12_leave 60 = .ok (.aload_n 0, 1) := by decide +kernel
theorem dX12_leave_61 : decode cX12_leave 61 = .ok (.iload_n 1, 1) := by decide +kernel
theorem dX12_leave_62 : decode cX12_leave 62 = .ok (.iconst 0, 1) := by decide +kernel
theorem dX12_leave_63 : decode cX12_leave 63 = .ok (.iconst 0, 1) := by decide +kernel
theorem dX12_leave_64 : decode cX12_leave 64 = .ok (.aload_n 0, 1) := by decide +kernel
theorem dX12_leave_65 : decode cX12_leave 65 = .ok (.getfield 165, 3) := by decide +kernel
theorem dX12_leave_68 : decode cX12_leave 68 = .ok (.iload_n 2, 1) := by decide +kernel
theorem dX12_leave_69 : decode cX12_leave 69 = .ok (.iaload, 1) := by decide +kernel
theorem dX12_leave_70 : decode cX12_leave 70 = .ok (.invokevirtual 413, 3) := by decide +kernel
theorem dX12_leave_73 : decode cX12_leave 73 = .ok (.ifCond .ne 4, 3) := by decide +kernel
theorem dX12_leave_76 : decode cX12_leave 76 = .ok (.return_, 1) := by decide +kernel
theorem dX12_leave_77 : decode cX12_leave 77 = .ok (.aload_n 0, 1) := by decide +kernel
theorem dX12_leave_78 : decode cX12_leave 78 = .ok (.iload_n 1, 1) := by decide +kernel
theorem dX12_leave_79 : decode cX12_leave 79 = .ok (.iconst 5, 1) := by decide +kernel
theorem dX12_leave_80 : decode cX12_leave 80 = .ok (.iconst 0, 1) := by decide +kernel
theorem dX12_leave_81 : decode cX12_leave 81 = .ok (.aload_n 0, 1) := by decide +kernel
theorem dX12_leave_82 : decode cX12_leave 82 = .ok (.getfield 165, 3) := by decide +kernel
theorem dX12_leave_85 : decode cX12_leave 85 = .ok (.iload_n 2, 1) := by decide +kernel
theorem dX12_leave_86 : decode cX12_leave 86 = .ok (.iaload, 1) := by decide +kernel
theorem dX12_leave_87 : decode cX12_leave 87 = .ok (.invokevirtual 413, 3) := by decide +kernel
theorem dX12_leave_90 : decode cX12_leave 90 = .ok (.istore_n 3, 1) := by decide +kernel
theorem dX12_leave_91 : decode cX12_leave 91 = .ok (.iload_n 3, 1) := by decide +kernel
theorem dX12_leave_92 : decode cX12_leave 92 = .ok (.aload_n 0, 1) := by decide +kernel
theorem dX12_leave_93 : decode cX12_leave 93 = .ok (.getfield 272, 3) := by decide +kernel
theorem dX12_leave_96 : decode cX12_leave 96 = .ok (.if_icmp .le 4, 3) := by decide +kernel
theorem dX12_leave_99 : decode cX12_leave 99 = .ok (.return_, 1) := by decide +kernel
theorem dX12_leave_100 : decode cX12_leave 100 = .ok (.aload_n 0, 1) := by decide +kernel
theorem dX12_leave_101 : decode cX12_leave 101 = .ok (.dup, 1) := by decide +kernel
theorem dX12_leave_102 : decode cX12_leave 102 = .ok (.getfield 272, 3) := by decide +kernel
theorem dX12_leave_105 : decode cX12_leave 105 = .ok (.iload_n 3, 1) := by decide +kernel
theorem dX12_leave_106 : decode cX12_leave 106 = .ok (.isub, 1) := by decide +kernel
theorem dX12_leave_107 : decode cX12_leave 107 = .ok (.putfield 272, 3) := by decide +kernel
theorem dX12_leave_110 : decode cX12_leave 110 = .ok (.aload_n 0, 1) := by decide +kernel
theorem dX12_leave_111 : decode cX12_leave 111 = .ok (.iload_n 1, 1) := by decide +kernel
theorem dX12_leave_112 : decode cX12_leave 112 = .ok (.iconst 2, 1) := by decide +kernel
theorem dX12_leave_113 : decode cX12_leave 113 = .ok (.iconst 0, 1) := by decide +kernel
theorem dX12_leave_114 : decode cX12_leave 114 = .ok (.aload_n 0, 1) := by decide +kernel
theorem dX12_leave_115 : decode cX12_leave 115 = .ok (.getfield 165, 3) := by decide +kernel
theorem dX12_leave_118 : decode cX12_leave 118 = .ok (.iload_n 2, 1) := by decide +kernel
theorem dX12_leave_119 : decode cX12_leave 119 = .ok (.iaload, 1) := by decide +kernel
theorem dX12_leave_120 : decode cX12_leave 120 = .ok (.invokevirtual 413, 3) := by decide +kernel
theorem dX12_leave_123 : decode cX12_leave 123 = .ok (.istore 4, 2) := by decide +kernel
theorem dX12_leave_125 : decode cX12_leave 125 = .ok (.iconst 0, 1) := by decide +kernel
theorem dX12_leave_126 : decode cX12_leave 126 = .ok (.istore 5, 2) := by decide +kernel
theorem dX12_leave_128 : decode cX12_leave 128 = .ok (.iconst 0, 1) := by decide +kernel
theorem dX12_leave_129 : decode cX12_leave 129 = .ok (.istore 6, 2) := by decide +kernel
theorem dX12_leave_131 : decode cX12_leave 131 = .ok (.iload 6, 2) := by decide +kernel
theorem dX12_leave_133 : decode cX12_leave 133 = .ok (.sipush 719, 3) := by decide +kernel
theorem dX12_leave_136 : decode cX12_leave 136 = .ok (.if_icmp .gt 166, 3) := by decide +kernel
theorem dX12_leave_139 : decode cX12_leave 139 = .ok (.iload 5, 2) := by decide +kernel
theorem dX12_leave_141 : decode cX12_leave 141 = .ok (.aload_n 0, 1) := by decide +kernel
theorem dX12_leave_142 : decode cX12_leave 142 = .ok (.getfield 58, 3) := by decide +kernel
theorem dX12_leave_145 : decode cX12_leave 145 = .ok (.iload_n 2, 1) := by decide +kernel
theorem dX12_leave_146 : decode cX12_leave 146 = .ok (.iaload, 1) := by decide +kernel
theorem dX12_leave_147 : decode cX12_leave 147 = .ok (.if_icmp .ge 155, 3) := by decide +kernel
theorem dX12_leave_150 : decode cX12_leave 150 = .ok (.iconst 0, 1) := by decide +kernel
theorem dX12_leave_151 : decode cX12_leave 151 = .ok (.istore 7, 2) := by decide +kernel
theorem dX12_leave_153 : decode cX12_leave 153 = .ok (.iload 7, 2) := by decide +kernel
theorem dX12_leave_155 : decode cX12_leave 155 = .ok (.aload_n 0, 1) := by decide +kernel
theorem dX12_leave_156 : decode cX12_leave 156 = .ok (.getfield 254, 3) := by decide +kernel
theorem dX12_leave_159 : decode cX12_leave 159 = .ok (.if_icmp .ge 137, 3) := by decide +kernel
theorem dX12_leave_162 : decode cX12_leave 162 = .ok (.iload 5, 2) := by decide +kernel
theorem dX12_leave_164 : decode cX12_leave 164 = .ok (.aload_n 0, 1) := by decide +kernel
theorem dX12_leave_165 : decode cX12_leave 165 = .ok (.getfield 58, 3) := by decide +kernel
theorem dX12_leave_168 : decode cX12_leave 168 = .ok (.iload_n 2, 1) := by decide +kernel
theorem dX12_leave_169 : decode cX12_leave 169 = .ok (.iaload, 1) := by decide +kernel
theorem dX12_leave_170 : decode cX12_leave 170 = .ok (.if_icmp .ge 126, 3) := by decide +kernel
theorem dX12_leave_173 : decode cX12_leave 173 = .ok (.aload_n 0, 1) := by decide +kernel
theorem dX12_leave_174 : decode cX12_leave 174 = .ok (.getfield 31, 3) := by decide +kernel
theorem dX12_leave_177 : decode cX12_leave 177 = .ok (.iload 7, 2) := by decide +kernel
theorem dX12_leave_179 : decode cX12_leave 179 = .ok (.iaload, 1) := by decide +kernel
theorem dX12_leave_180 : decode cX12_leave 180 = .ok (.iload 6, 2) := by decide +kernel
theorem dX12_leave_182 : decode cX12_leave 182 = .ok (.if_icmp .ne 108, 3) := by decide +kernel
theorem dX12_leave_185 : decode cX12_leave 185 = .ok (.aload_n 0, 1) := by decide +kernel
theorem dX12_leave_186 : decode cX12_leave 186 = .ok (.getfield 135, 3) := by decide +kernel
theorem dX12_leave_189 : decode cX12_leave 189 = .ok (.iload 7, 2) := by decide +kernel
theorem dX12_leave_191 : decode cX12_leave 191 = .ok (.iaload, 1) := by decide +kernel
theorem dX12_leave_192 : decode cX12_leave 192 = .ok (.iconst 2, 1) := by decide +kernel
theorem dX12_leave_193 : decode cX12_leave 193 = .ok (.if_icmp .ne 97, 3) := by decide +kernel
theorem dX12_leave_196 : decode cX12_leave 196 = .ok (.aload_n 0, 1) := by decide +kernel
theorem dX12_leave_197 : decode cX12_leave 197 = .ok (.getfield 144, 3) := by decide +kernel
theorem dX12_leave_200 : decode cX12_leave 200 = .ok (.iload 7, 2) := by decide +kernel
theorem dX12_leave_202 : decode cX12_leave 202 = .ok (.iaload, 1) := by decide +kernel
theorem dX12_leave_203 : decode cX12_leave 203 = .ok (.iload_n 1, 1) := by decide +kernel
theorem dX12_leave_204 : decode cX12_leave 204 = .ok (.if_icmp .ne 86, 3) := by decide +kernel
theorem dX12_leave_207 : decode cX12_leave 207 = .ok (.aload_n 0, 1) := by decide +kernel
theorem dX12_leave_208 : decode cX12_leave 208 = .ok (.getfield 40, 3) := by decide +kernel
theorem dX12_leave_211 : decode cX12_leave 211 = .ok (.iload 7, 2) := by decide +kernel
theorem dX12_leave_213 : decode cX12_leave 213 = .ok (.iaload, 1) := by decide +kernel
theorem dX12_leave_214 : decode cX12_leave 214 = .ok (.iload 4, 2) := by decide +kernel
theorem dX12_leave_216 : decode cX12_leave 216 = .ok (.if_icmp .ge 6, 3) := by decide +kernel
theorem dX12_leave_219 : decode cX12_leave 219 = .ok (.goto 71, 3) := by decide +kernel
theorem dX12_leave_222 : decode cX12_leave 222 = .ok (.aload_n 0, 1) := by decide +kernel
theorem dX12_leave_223 : decode cX12_leave 223 = .ok (.getfield 40, 3) := by decide +kernel
theorem dX12_leave_226 : decode cX12_leave 226 = .ok (.iload 7, 2) := by decide +kernel
theorem dX12_leave_228 : decode cX12_leave 228 = .ok (.dup2, 1) := by decide +kernel
theorem dX12_leave_229 : decode cX12_leave 229 = .ok (.iaload, 1) := by decide +kernel
theorem dX12_leave_230 : decode cX12_leave 230 = .ok (.iload 4, 2) := by decide +kernel
theorem dX12_leave_232 : decode cX12_leave 232 = .ok (.isub, 1) := by decide +kernel
theorem dX12_leave_233 : decode cX12_leave 233 = .ok (.iastore, 1) := by decide +kernel
theorem dX12_leave_234 : decode cX12_leave 234 = .ok (.aload_n 0, 1) := by decide +kernel
theorem dX12_leave_235 : decode cX12_leave 235 = .ok (.getfield 52, 3) := by decide +kernel
theorem dX12_leave_238 : decode cX12_leave 238 = .ok (.iload_n 2, 1) := by decide +kernel
theorem dX12_leave_239 : decode cX12_leave 239 = .ok (.iaload, 1) := by decide +kernel
theorem dX12_leave_240 : decode cX12_leave 240 = .ok (.iconst 2, 1) := by decide +kernel
theorem dX12_leave_241 : decode cX12_leave 241 = .ok (.if_icmp .ne 24, 3) := by decide +kernel
theorem dX12_leave_244 : decode cX12_leave 244 = .ok (.aload_n 0, 1) := by decide +kernel
theorem dX12_leave_245 : decode cX12_leave 245 = .ok (.getfield 64, 3) := by decide +kernel
theorem dX12_leave_248 : decode cX12_leave 248 = .ok (.iload_n 2, 1) := by decide +kernel
theorem dX12_leave_249 : decode cX12_leave 249 = .ok (.aload_n 0, 1) := by decide +kernel
theorem dX12_leave_250 : decode cX12_leave 250 = .ok (.getfield 64, 3) := by decide +kernel
theorem dX12_leave_253 : decode cX12_leave 253 = .ok (.iload_n 2, 1) := by decide +kernel
theorem dX12_leave_254 : decode cX12_leave 254 = .ok (.iaload, 1) := by decide +kernel
theorem dX12_leave_255 : decode cX12_leave 255 = .ok (.iload 4, 2) := by decide +kernel
theorem dX12_leave_257 : decode cX12_leave 257 = .ok (.iadd, 1) := by decide +kernel
theorem dX12_leave_258 : decode cX12_leave 258 = .ok (.invokestatic 275, 3) := by decide +kernel
theorem dX12_leave_261 : decode cX12_leave 261 = .ok (.iastore, 1) := by decide +kernel
theorem dX12_leave_262 : decode cX12_leave 262 = .ok (.goto 17, 3) := by decide +kernel
theorem dX12_leave_265 : decode cX12_leave 265 = .ok (.aload_n 0, 1) := by decide +kernel
theorem dX12_leave_266 : decode cX12_leave 266 = .ok (.aload_n 0, 1) := by decide +kernel
theorem dX12_leave_267 : decode cX12_leave 267 = .ok (.getfield 272, 3) := by decide +kernel
theorem dX12_leave_270 : decode cX12_leave 270 = .ok (.iload 4, 2) := by decide +kernel
theorem dX12_leave_272 : decode cX12_leave 272 = .ok (.iadd, 1) := by decide +kernel
theorem dX12_leave_273 : decode cX12_leave 273 = .ok (.invokestatic 275, 3) := by decide +kernel
theorem dX12_leave_276 : decode cX12_leave 276 = .ok (.putfield 272, 3) := by decide +kernel
theorem dX12_leave_279 : decode cX12_leave 279 = .ok (.aload_n 0, 1) := by decide +kernel
theorem dX12_leave_280 : decode cX12_leave 280 = .ok (.getfield 135, 3) := by decide +kernel
theorem dX12_leave_283 : decode cX12_leave 283 = .ok (.iload 7, 2) := by decide +kernel
theorem dX12_leave_285 : decode cX12_leave 285 = .ok (.iconst 3, 1) := by decide +kernel
theorem dX12_leave_286 : decode cX12_leave 286 = .ok (.iastore, 1) := by decide +kernel
theorem dX12_leave_287 : decode cX12_leave 287 = .ok (.iinc 5 1, 3) := by decide +kernel
theorem dX12_leave_290 : decode cX12_leave 290 = .ok (.iinc 7 1, 3) := by decide +kernel
theorem dX12_leave_293 : decode cX12_leave 293 = .ok (.goto (-140), 3) := by decide +kernel
theorem dX12_leave_296 : decode cX12_leave 296 = .ok (.iinc 6 1, 3) := by decide +kernel
theorem dX12_leave_299 : decode cX12_leave 299 = .ok (.goto (-168), 3) := by decide +kernel
theorem dX12_leave_302 : decode cX12_leave 302 = .ok (.iconst 0, 1) := by decide +kernel
theorem dX12_leave_303 : decode cX12_leave 303 = .ok (.istore 6, 2) := by decide +kernel
theorem dX12_leave_305 : decode cX12_leave 305 = .ok (.aload_n 0, 1) := by decide +kernel
theorem dX12_leave_306 : decode cX12_leave 306 = .ok (.iload_n 1, 1) := by decide +kernel
theorem dX12_leave_307 : decode cX12_leave 307 = .ok (.iconst 1, 1) := by decide +kernel
theorem dX12_leave_308 : decode cX12_leave 308 = .ok (.iload 5, 2) := by decide +kernel
theorem dX12_leave_310 : decode cX12_leave 310 = .ok (.aload_n 0, 1) := by decide +kernel
theorem dX12_leave_311 : decode cX12_leave 311 = .ok (.getfield 165, 3) := by decide +kernel
theorem dX12_leave_314 : decode cX12_leave 314 = .ok (.iload_n 2, 1) := by decide +kernel
theorem dX12_leave_315 : decode cX12_leave 315 = .ok (.iaload, 1) := by decide +kernel
theorem dX12_leave_316 : decode cX12_leave 316 = .ok (.invokevirtual 413, 3) := by decide +kernel
theorem dX12_leave_319 : decode cX12_leave 319 = .ok (.iconst 1, 1) := by decide +kernel
theorem dX12_leave_320 : decode cX12_leave 320 = .ok (.if_icmp .ne 176, 3) := by decide +kernel
theorem dX12_leave_323 : decode cX12_leave 323 = .ok (.aload_n 0, 1) := by decide +kernel
theorem dX12_leave_324 : decode cX12_leave 324 = .ok (.iload_n 1, 1) := by decide +kernel
theorem dX12_leave_325 : decode cX12_leave 325 = .ok (.iconst 4, 1) := by decide +kernel
theorem dX12_leave_326 : decode cX12_leave 326 = .ok (.iload 5, 2) := by decide +kernel
theorem dX12_leave_328 : decode cX12_leave 328 = .ok (.aload_n 0, 1) := by decide +kernel
theorem dX12_leave_329 : decode cX12_leave 329 = .ok (.getfield 165, 3) := by decide +kernel
theorem dX12_leave_332 : decode cX12_leave 332 = .ok (.iload_n 2, 1) := by decide +kernel
theorem dX12_leave_333 : decode cX12_leave 333 = .ok (.iaload, 1) := by decide +kernel
theorem dX12_leave_334 : decode cX12_leave 334 = .ok (.invokevirtual 413, 3) := by decide +kernel
theorem dX12_leave_337 : decode cX12_leave 337 = .ok (.istore 7, 2) := by decide +kernel
theorem dX12_leave_339 : decode cX12_leave 339 = .ok (.aload_n 0, 1) := by decide +kernel
theorem dX12_leave_340 : decode cX12_leave 340 = .ok (.iload_n 1, 1) := by decide +kernel
theorem dX12_leave_341 : decode cX12_leave 341 = .ok (.iconst 3, 1) := by decide +kernel
theorem dX12_leave_342 : decode cX12_leave 342 = .ok (.iload 5, 2) := by decide +kernel
theorem dX12_leave_344 : decode cX12_leave 344 = .ok (.aload_n 0, 1) := by decide +kernel
theorem dX12_leave_345 : decode cX12_leave 345 = .ok (.getfield 165, 3) := by decide +kernel
theorem dX12_leave_348 : decode cX12_leave 348 = .ok (.iload_n 2, 1) := by decide +kernel
theorem dX12_leave_349 : decode cX12_leave 349 = .ok (.iaload, 1) := by decide +kernel
theorem dX12_leave_350 : decode cX12_leave 350 = .ok (.invokevirtual 413, 3) := by decide +kernel
theorem dX12_leave_353 : decode cX12_leave 353 = .ok (.istore 6, 2) := by decide +kernel
theorem dX12_leave_355 : decode cX12_leave 355 = .ok (.aload_n 0, 1) := by decide +kernel
theorem dX12_leave_356 : decode cX12_leave 356 = .ok (.getfield 165, 3) := by decide +kernel
theorem dX12_leave_359 : decode cX12_leave 359 = .ok (.iload_n 2, 1) := by decide +kernel
theorem dX12_leave_360 : decode cX12_leave 360 = .ok (.dup2, 1) := by decide +kernel
theorem dX12_leave_361 : decode cX12_leave 361 = .ok (.iaload, 1) := by decide +kernel
theorem dX12_leave_362 : decode cX12_leave 362 = .ok (.iconst 1, 1) := by decide +kernel
theorem dX12_leave_363 : decode cX12_leave 363 = .ok (.iadd, 1) := by decide +kernel
theorem dX12_leave_364 : decode cX12_leave 364 = .ok (.iastore, 1) := by decide +kernel
theorem dX12_leave_365 : decode cX12_leave 365 = .ok (.aload_n 0, 1) := by decide +kernel
theorem dX12_leave_366 : decode cX12_leave 366 = .ok (.getfield 52, 3) := by decide +kernel
theorem dX12_leave_369 : decode cX12_leave 369 = .ok (.iload_n 2, 1) := by decide +kernel
theorem dX12_leave_370 : decode cX12_leave 370 = .ok (.iaload, 1) := by decide +kernel
theorem dX12_leave_371 : decode cX12_leave 371 = .ok (.iconst 2, 1) := by decide +kernel
theorem dX12_leave_372 : decode cX12_leave 372 = .ok (.if_icmp .ne 12, 3) := by decide +kernel
theorem dX12_leave_375 : decode cX12_leave 375 = .ok (.aload_n 0, 1) := by decide +kernel
theorem dX12_leave_376 : decode cX12_leave 376 = .ok (.getfield 64, 3) := by decide +kernel
theorem dX12_leave_379 : decode cX12_leave 379 = .ok (.iload_n 2, 1) := by decide +kernel
theorem dX12_leave_380 : decode cX12_leave 380 = .ok (.iaload, 1) := by decide +kernel
theorem dX12_leave_381 : decode cX12_leave 381 = .ok (.goto 7, 3) := by decide +kernel
theorem dX12_leave_384 : decode cX12_leave 384 = .ok (.aload_n 0, 1) := by decide +kernel
theorem dX12_leave_385 : decode cX12_leave 385 = .ok (.getfield 272, 3) := by decide +kernel
theorem dX12_leave_388 : decode cX12_leave 388 = .ok (.iload 7, 2) := by decide +kernel
theorem dX12_leave_390 : decode cX12_leave 390 = .ok (.if_icmp .lt 7, 3) := by decide +kernel
theorem dX12_leave_393 : decode cX12_leave 393 = .ok (.iconst 1, 1) := by decide +kernel
theorem dX12_leave_394 : decode cX12_leave 394 = .ok (.goto 4, 3) := by decide +kernel
theorem dX12_leave_397 : decode cX12_leave 397 = .ok (.iconst 0, 1) := by decide +kernel
theorem dX12_leave_398 : decode cX12_leave 398 = .ok (.istore 8, 2) := by decide +kernel
theorem dX12_leave_400 : decode cX12_leave 400 = .ok (.iload 8, 2) := by decide +kernel
theorem dX12_leave_402 : decode cX12_leave 402 = .ok (.ifCond .ne 59, 3) := by decide +kernel
theorem dX12_leave_405 : decode cX12_leave 405 = .ok (.aload_n 0, 1) := by decide +kernel
theorem dX12_leave_406 : decode cX12_leave 406 = .ok (.getfield 168, 3) := by decide +kernel
theorem dX12_leave_409 : decode cX12_leave 409 = .ok (.iload_n 2, 1) := by decide +kernel
theorem dX12_leave_410 : decode cX12_leave 410 = .ok (.iconst 1, 1) := by decide +kernel
theorem dX12_leave_411 : decode cX12_leave 411 = .ok (.iastore, 1) := by decide +kernel
theorem dX12_leave_412 : decode cX12_leave 412 = .ok (.iconst 0, 1) := by decide +kernel
theorem dX12_leave_413 : decode cX12_leave 413 = .ok (.istore 9, 2) := by decide +kernel
theorem dX12_leave_415 : decode cX12_leave 415 = .ok (.iload 9, 2) := by decide +kernel
theorem dX12_leave_417 : decode cX12_leave 417 = .ok (.aload_n 0, 1) := by decide +kernel
theorem dX12_leave_418 : decode cX12_leave 418 = .ok (.getfield 254, 3) := by decide +kernel
theorem dX12_leave_421 : decode cX12_leave 421 = .ok (.if_icmp .ge 39, 3) := by decide +kernel
theorem dX12_leave_424 : decode cX12_leave 424 = .ok (.aload_n 0, 1) := by decide +kernel
theorem dX12_leave_425 : decode cX12_leave 425 = .ok (.getfield 135, 3) := by decide +kernel
theorem dX12_leave_428 : decode cX12_leave 428 = .ok (.iload 9, 2) := by decide +kernel
theorem dX12_leave_430 : decode cX12_leave 430 = .ok (.iaload, 1) := by decide +kernel
theorem dX12_leave_431 : decode cX12_leave 431 = .ok (.iconst 3, 1) := by decide +kernel
theorem dX12_leave_432 : decode cX12_leave 432 = .ok (.if_icmp .ne 22, 3) := by decide +kernel
theorem dX12_leave_435 : decode cX12_leave 435 = .ok (.aload_n 0, 1) := by decide +kernel
theorem dX12_leave_436 : decode cX12_leave 436 = .ok (.getfield 144, 3) := by decide +kernel
theorem dX12_leave_439 : decode cX12_leave 439 = .ok (.iload 9, 2) := by decide +kernel
theorem dX12_leave_441 : decode cX12_leave 441 = .ok (.iaload, 1) := by decide +kernel
theorem dX12_leave_442 : decode cX12_leave 442 = .ok (.iload_n 1, 1) := by decide +kernel
theorem dX12_leave_443 : decode cX12_leave 443 = .ok (.if_icmp .ne 11, 3) := by decide +kernel
theorem dX12_leave_446 : decode cX12_leave 446 = .ok (.aload_n 0, 1) := by decide +kernel
theorem dX12_leave_447 : decode cX12_leave 447 = .ok (.getfield 135, 3) := by decide +kernel
theorem dX12_leave_450 : decode cX12_leave 450 = .ok (.iload 9, 2) := by decide +kernel
theorem dX12_leave_452 : decode cX12_leave 452 = .ok (.iconst 2, 1) := by decide +kernel
theorem dX12_leave_453 : decode cX12_leave 453 = .ok (.iastore, 1) := by decide +kernel
theorem dX12_leave_454 : decode cX12_leave 454 = .ok (.iinc 9 1, 3) := by decide +kernel
theorem dX12_leave_457 : decode cX12_leave 457 = .ok (.goto (-42), 3) := by decide +kernel
theorem dX12_leave_460 : decode cX12_leave 460 = .ok (.return_, 1) := by decide +kernel
theorem dX12_leave_461 : decode cX12_leave 461 = .ok (.aload_n 0, 1) := by decide +kernel
theorem dX12_leave_462 : decode cX12_leave 462 = .ok (.getfield 52, 3) := by decide +kernel
theorem dX12_leave_465 : decode cX12_leave 465 = .ok (.iload_n 2, 1) := by decide +kernel
theorem dX12_leave_466 : decode cX12_leave 466 = .ok (.iaload, 1) := by decide +kernel
theorem dX12_leave_467 : decode cX12_leave 467 = .ok (.iconst 2, 1) := by decide +kernel
theorem dX12_leave_468 : decode cX12_leave 468 = .ok (.if_icmp .ne 17, 3) := by decide +kernel
theorem dX12_leave_471 : decode cX12_leave 471 = .ok (.aload_n 0, 1) := by decide +kernel
theorem dX12_leave_472 : decode cX12_leave 472 = .ok (.getfield 64, 3) := by decide +kernel
theorem dX12_leave_475 : decode cX12_leave 475 = .ok (.iload_n 2, 1) := by decide +kernel
theorem dX12_leave_476 : decode cX12_leave 476 = .ok (.dup2, 1) := by decide +kernel
theorem dX12_leave_477 : decode cX12_leave 477 = .ok (.iaload, 1) := by decide +kernel
theorem dX12_leave_478 : decode cX12_leave 478 = .ok (.iload 7, 2) := by decide +kernel
theorem dX12_leave_480 : decode cX12_leave 480 = .ok (.isub, 1) := by decide +kernel
theorem dX12_leave_481 : decode cX12_leave 481 = .ok (.iastore, 1) := by decide +kernel
theorem dX12_leave_482 : decode cX12_leave 482 = .ok (.goto 14, 3) := by decide +kernel
theorem dX12_leave_485 : decode cX12_leave 485 = .ok (.aload_n 0, 1) := by decide +kernel
theorem dX12_leave_486 : decode cX12_leave 486 = .ok (.dup, 1) := by decide +kernel
theorem dX12_leave_487 : decode cX12_leave 487 = .ok (.getfield 272, 3) := by decide +kernel
theorem dX12_leave_490 : decode cX12_leave 490 = .ok (.iload 7, 2) := by decide +kernel
theorem dX12_leave_492 : decode cX12_leave 492 = .ok (.isub, 1) := by decide +kernel
theorem dX12_leave_493 : decode cX12_leave 493 = .ok (.putfield 272, 3) := by decide +kernel
theorem dX12_leave_496 : decode cX12_leave 496 = .ok (.aload_n 0, 1) := by decide +kernel
theorem dX12_leave_497 : decode cX12_leave 497 = .ok (.getfield 171, 3) := by decide +kernel
theorem dX12_leave_500 : decode cX12_leave 500 = .ok (.iload_n 1, 1) := by decide +kernel
theorem dX12_leave_501 : decode cX12_leave 501 = .ok (.iload 5, 2) := by decide +kernel
theorem dX12_leave_503 : decode cX12_leave 503 = .ok (.iastore, 1) := by decide +kernel
theorem dX12_leave_504 : decode cX12_leave 504 = .ok (.aload_n 0, 1) := by decide +kernel
theorem dX12_leave_505 : decode cX12_leave 505 = .ok (.getfield 159, 3) := by decide +kernel
theorem dX12_leave_508 : decode cX12_leave 508 = .ok (.iload_n 2, 1) := by decide +kernel
theorem dX12_leave_509 : decode cX12_leave 509 = .ok (.aload_n 0, 1) := by decide +kernel
theorem dX12_leave_510 : decode cX12_leave 510 = .ok (.getfield 73, 3) := by decide +kernel
theorem dX12_leave_513 : decode cX12_leave 513 = .ok (.iload_n 1, 1) := by decide +kernel
theorem dX12_leave_514 : decode cX12_leave 514 = .ok (.iaload, 1) := by decide +kernel
theorem dX12_leave_515 : decode cX12_leave 515 = .ok (.iastore, 1) := by decide +kernel
theorem dX12_leave_516 : decode cX12_leave 516 = .ok (.aload_n 0, 1) := by decide +kernel
theorem dX12_leave_517 : decode cX12_leave 517 = .ok (.getfield 162, 3) := by decide +kernel
theorem dX12_leave_520 : decode cX12_leave 520 = .ok (.iload_n 2, 1) := by decide +kernel
theorem dX12_leave_521 : decode cX12_leave 521 = .ok (.aload_n 0, 1) := by decide +kernel
theorem dX12_leave_522 : decode cX12_leave 522 = .ok (.getfield 443, 3) := by decide +kernel
theorem dX12_leave_525 : decode cX12_leave 525 = .ok (.iload 6, 2) := by decide +kernel
theorem dX12_leave_527 : decode cX12_leave 527 = .ok (.iadd, 1) := by decide +kernel
theorem dX12_leave_528 : decode cX12_leave 528 = .ok (.aload_n 0, 1) := by decide +kernel
theorem dX12_leave_529 : decode cX12_leave 529 = .ok (.iload_n 1, 1) := by decide +kernel
theorem dX12_leave_530 : decode cX12_leave 530 = .ok (.invokevirtual 436, 3) := by decide +kernel
theorem dX12_leave_533 : decode cX12_leave 533 = .ok (.iadd, 1) := by decide +kernel
theorem dX12_leave_534 : decode cX12_leave 534 = .ok (.iastore, 1) := by decide +kernel
theorem dX12_leave_535 : decode cX12_leave 535 = .ok (.iconst 0, 1) := by decide +kernel
theorem dX12_leave_536 : decode cX12_leave 536 = .ok (.istore 7, 2) := by decide +kernel
theorem dX12_leave_538 : decode cX12_leave 538 = .ok (.iload 7, 2) := by decide +kernel
theorem dX12_leave_540 : decode cX12_leave 540 = .ok (.aload_n 0, 1) := by decide +kernel
theorem dX12_leave_541 : decode cX12_leave 541 = .ok (.getfield 254, 3) := by decide +kernel
theorem dX12_leave_544 : decode cX12_leave 544 = .ok (.if_icmp .ge 42, 3) := by decide +kernel
theorem dX12_leave_547 : decode cX12_leave 547 = .ok (.aload_n 0, 1) := by decide +kernel
theorem dX12_leave_548 : decode cX12_leave 548 = .ok (.getfield 135, 3) := by decide +kernel
theorem dX12_leave_551 : decode cX12_leave 551 = .ok (.iload 7, 2) := by decide +kernel
theorem dX12_leave_553 : decode cX12_leave 553 = .ok (.iaload, 1) := by decide +kernel
theorem dX12_leave_554 : decode cX12_leave 554 = .ok (.iconst 3, 1) := by decide +kernel
theorem dX12_leave_555 : decode cX12_leave 555 = .ok (.if_icmp .ne 25, 3) := by decide +kernel
theorem dX12_leave_558 : decode cX12_leave 558 = .ok (.aload_n 0, 1) := by decide +kernel
theorem dX12_leave_559 : decode cX12_leave 559 = .ok (.getfield 144, 3) := by decide +kernel
theorem dX12_leave_562 : decode cX12_leave 562 = .ok (.iload 7, 2) := by decide +kernel
theorem dX12_leave_564 : decode cX12_leave 564 = .ok (.iaload, 1) := by decide +kernel
theorem dX12_leave_565 : decode cX12_leave 565 = .ok (.iload_n 1, 1) := by decide +kernel
theorem dX12_leave_566 : decode cX12_leave 566 = .ok (.if_icmp .ne 14, 3) := by decide +kernel
theorem dX12_leave_569 : decode cX12_leave 569 = .ok (.aload_n 0, 1) := by decide +kernel
theorem dX12_leave_570 : decode cX12_leave 570 = .ok (.getfield 156, 3) := by decide +kernel
theorem dX12_leave_573 : decode cX12_leave 573 = .ok (.iload 7, 2) := by decide +kernel
theorem dX12_leave_575 : decode cX12_leave 575 = .ok (.dup2, 1) := by decide +kernel
theorem dX12_leave_576 : decode cX12_leave 576 = .ok (.iaload, 1) := by decide +kernel
theorem dX12_leave_577 : decode cX12_leave 577 = .ok (.iconst 1, 1) := by decide +kernel
theorem dX12_leave_578 : decode cX12_leave 578 = .ok (.iadd, 1) := by decide +kernel
theorem dX12_leave_579 : decode cX12_leave 579 = .ok (.iastore, 1) := by decide +kernel
theorem dX12_leave_580 : decode cX12_leave 580 = .ok (.iinc 7 1, 3) := by decide +kernel
theorem dX12_leave_583 : decode cX12_leave 583 = .ok (.goto (-45), 3) := by decide +kernel
theorem dX12_leave_586 : decode cX12_leave 586 = .ok (.return_, 1) := by decide +kernel
theorem dX12_morning_0 : decode cX12_morning 0 = .ok (.aload_n 0, 1) := by decide +kernel
theorem dX12_morning_1 : decode cX12_morning 1 = .ok (.iconst 0, 1) := by decide +kernel
theorem dX12_morning_2 : decode cX12_morning 2 = .ok (.putfield 204, 3) := by decide +kernel
theorem dX12_morning_5 : decode cX12_morning 5 = .ok (.aload_n 0, 1) := by decide +kernel
theorem dX12_morning_6 : decode cX12_morning 6 = .ok (.getfield 183, 3) := by decide +kernel
theorem dX12_morning_9 : decode cX12_morning 9 = .ok (.aload_n 0, 1) := by decide +kernel
theorem dX12_morning_10 : decode cX12_morning 10 = .ok (.getfield 218, 3) := by decide +kernel
theorem dX12_morning_13 : decode cX12_morning 13 = .ok (.if_icmp .ne 5, 3) := by decide +kernel
theorem dX12_morning_16 : decode cX12_morning 16 = .ok (.iconst (-1), 1) := by decide +kernel
theorem dX12_morning_17 : decode cX12_morning 17 = .ok (.ireturn, 1) := by decide +kernel
theorem dX12_morning_18 : decode cX12_morning 18 = .ok (.aload_n 0, 1) := by decide +kernel
theorem dX12_morning_19 : decode cX12_morning 19 = .ok (.aload_n 0, 1) := by decide +kernel
theorem dX12_morning_20 : decode cX12_morning 20 = .ok (.getfield 218, 3) := by decide +kernel
theorem dX12_morning_23 : decode cX12_morning 23 = .ok (.putfield 183, 3) := by decide +kernel
theorem dX12_morning_26 : decode cX12_morning 26 = .ok (.aload_n 0, 1) := by decide +kernel
theorem dX12_morning_27 : decode cX12_morning 27 = .ok (.iconst (-1), 1) := by decide +kernel
theorem dX12_morning_28 : decode cX12_morning 28 = .ok (.invokevirtual 468, 3) := by decide +kernel
theorem dX12_morning_31 : decode cX12_morning 31 = .ok (.iconst 0, 1) := by decide +kernel
theorem dX12_morning_32 : decode cX12_morning 32 = .ok (.istore_n 1, 1) := by decide +kernel
theorem dX12_morning_33 : decode cX12_morning 33 = .ok (.iload_n 1, 1) := by decide +kernel
theorem dX12_morning_34 : decode cX12_morning 34 = .ok (.aload_n 0, 1) := by decide +kernel
theorem dX12_morning_35 : decode cX12_morning 35 = .ok (.getfield 269, 3) := by decide +kernel
theorem dX12_morning_38 : decode cX12_morning 38 = .ok (.if_icmp .ge 21, 3) := by decide +kernel
theorem dX12_morning_41 : decode cX12_morning 41 = .ok (.aload_n 0, 1) := by decide +kernel
theorem dX12_morning_42 : decode cX12_morning 42 = .ok (.getfield 174, 3) := by decide +kernel
theorem dX12_morning_45 : decode cX12_morning 45 = .ok (.iload_n 1, 1) := by decide +kernel
theorem dX12_morning_46 : decode cX12_morning 46 = .ok (.aload_n 0, 1) := by decide +kernel
theorem dX12_morning_47 : decode cX12_morning 47 = .ok (.getfield 171, 3) := by decide +kernel
theorem dX12_morning_50 : decode cX12_morning 50 = .ok (.iload_n 1, 1) := by decide +kernel
theorem dX12_morning_51 : decode cX12_morning 51 = .ok (.iaload, 1) := by decide +kernel
theorem dX12_morning_52 : decode cX12_morning 52 = .ok (.iastore, 1) := by decide +kernel
theorem dX12_morning_53 : decode cX12_morning 53 = .ok (.iinc 1 1, 3) := by decide +kernel
theorem dX12_morning_56 : decode cX12_morning 56 = .ok (.goto (-23), 3) := by decide +kernel
theorem dX12_morning_59 : decode cX12_morning 59 = .ok (.aload_n 0, 1) := by decide +kernel
theorem dX12_morning_60 : decode cX12_morning 60 = .ok (.invokevirtual 471, 3) := by decide +kernel
theorem dX12_morning_63 : decode cX12_morning 63 = .ok (.ireturn, 1) := by decide +kernel
theorem dX12_putBack_0 : decode cX12_putBack 0 = .ok (.iconst 0, 1) := by decide +kernel
theorem dX12_putBack_1 : decode cX12_putBack 1 = .ok (.istore_n 3, 1) := by decide +kernel
theorem dX12_putBack_2 : decode cX12_putBack 2 = .ok (.iload_n 3, 1) := by decide +kernel
theorem dX12_putBack_3 : decode cX12_putBack 3 = .ok (.iload_n 2, 1) := by decide +kernel
theorem dX12_putBack_4 : decode cX12_putBack 4 = .ok (.if_icmp .ge 31, 3) := by decide +kernel
theorem dX12_putBack_7 : decode cX12_putBack 7 = .ok (.aload_n 1, 1) := by decide +kernel
theorem dX12_putBack_8 : decode cX12_putBack 8 = .ok (.iload_n 3, 1) := by decide +kernel
theorem dX12_putBack_9 : decode cX12_putBack 9 = .ok (.aload_n 0, 1) := by decide +kernel
theorem dX12_putBack_10 : decode cX12_putBack 10 = .ok (.getfield 186, 3) := by decide +kernel
theorem dX12_putBack_13 : decode cX12_putBack 13 = .ok (.aload_n 0, 1) := by decide +kernel
theorem dX12_putBack_14 : decode cX12_putBack 14 = .ok (.getfield 474, 3) := by decide +kernel
theorem dX12_putBack_17 : decode cX12_putBack 17 = .ok (.iaload, 1) := by decide +kernel
theorem dX12_putBack_18 : decode cX12_putBack 18 = .ok (.iastore, 1) := by decide +kernel
theorem dX12_putBack_19 : decode cX12_putBack 19 = .ok (.aload_n 0, 1) := by decide +kernel
theorem dX12_putBack_20 : decode cX12_putBack 20 = .ok (.dup, 1) := by decide +kernel
theorem dX12_putBack_21 : decode cX12_putBack 21 = .ok (.getfield 474, 3) := by decide +kernel
theorem dX12_putBack_24 : decode cX12_putBack 24 = .ok (.iconst 1, 1) := by decide +kernel
theorem dX12_putBack_25 : decode cX12_putBack 25 = .ok (.iadd, 1) := by decide +kernel
theorem dX12_putBack_26 : decode cX12_putBack 26 = .ok (.putfield 474, 3) := by decide +kernel
theorem dX12_putBack_29 : decode cX12_putBack 29 = .ok (.iinc 3 1, 3) := by decide +kernel
theorem dX12_putBack_32 : decode cX12_putBack 32 = .ok (.goto (-30), 3) := by decide +kernel
theorem dX12_putBack_35 : decode cX12_putBack 35 = .ok (.return_, 1) := by decide +kernel
theorem dX12_step_0 : decode cX12_step 0 = .ok (.iconst 0, 1) := by decide +kernel
theorem dX12_step_1 : decode cX12_step 1 = .ok (.istore_n 1, 1) := by decide +kernel
theorem dX12_step_2 : decode cX12_step 2 = .ok (.iload_n 1, 1) := by decide +kernel
theorem dX12_step_3 : decode cX12_step 3 = .ok (.aload_n 0, 1) := by decide +kernel
theorem dX12_step_4 : decode cX12_step 4 = .ok (.getfield 263, 3) := by decide +kernel
theorem dX12_step_7 : decode cX12_step 7 = .ok (.if_icmp .ge 29, 3) := by decide +kernel
theorem dX12_step_10 : decode cX12_step 10 = .ok (.aload_n 0, 1) := by decide +kernel
theorem dX12_step_11 : decode cX12_step 11 = .ok (.getfield 162, 3) := by decide +kernel
theorem dX12_step_14 : decode cX12_step 14 = .ok (.iload_n 1, 1) := by decide +kernel
theorem dX12_step_15 : decode cX12_step 15 = .ok (.iaload, 1) := by decide +kernel
theorem dX12_step_16 : decode cX12_step 16 = .ok (.aload_n 0, 1) := by decide +kernel
theorem dX12_step_17 : decode cX12_step 17 = .ok (.getfield 443, 3) := by decide +kernel
theorem dX12_step_20 : decode cX12_step 20 = .ok (.if_icmp .ne 10, 3) := by decide +kernel
theorem dX12_step_23 : decode cX12_step 23 = .ok (.aload_n 0, 1) := by decide +kernel
theorem dX12_step_24 : decode cX12_step 24 = .ok (.getfield 162, 3) := by decide +kernel
theorem dX12_step_27 : decode cX12_step 27 = .ok (.iload_n 1, 1) := by decide +kernel
theorem dX12_step_28 : decode cX12_step 28 = .ok (.iconst (-1), 1) := by decide +kernel
theorem dX12_step_29 : decode cX12_step 29 = .ok (.iastore, 1) := by decide +kernel
theorem dX12_step_30 : decode cX12_step 30 = .ok (.iinc 1 1, 3) := by decide +kernel
theorem dX12_step_33 : decode cX12_step 33 = .ok (.goto (-31), 3) := by decide +kernel
theorem dX12_step_36 : decode cX12_step 36 = .ok (.iconst 0, 1) := by decide +kernel
theorem dX12_step_37 : decode cX12_step 37 = .ok (.istore_n 1, 1) := by decide +kernel
theorem dX12_step_38 : decode cX12_step 38 = .ok (.iload_n 1, 1) := by decide +kernel
theorem dX12_step_39 : decode cX12_step 39 = .ok (.aload_n 0, 1) := by decide +kernel
theorem dX12_step_40 : decode cX12_step 40 = .ok (.getfield 254, 3) := by decide +kernel
theorem dX12_step_43 : decode cX12_step 43 = .ok (.if_icmp .ge 73, 3) := by decide +kernel
theorem dX12_step_46 : decode cX12_step 46 = .ok (.aload_n 0, 1) := by decide +kernel
theorem dX12_step_47 : decode cX12_step 47 = .ok (.getfield 135, 3) := by decide +kernel
theorem dX12_step_50 : decode cX12_step 50 = .ok (.iload_n 1, 1) := by decide +kernel
theorem dX12_step_51 : decode cX12_step 51 = .ok (.iaload, 1) := by decide +kernel
theorem dX12_step_52 : decode cX12_step 52 = .ok (.iconst 3, 1) := by decide +kernel
theorem dX12_step_53 : decode cX12_step 53 = .ok (.if_icmp .ne 57, 3) := by decide +kernel
theorem dX12_step_56 : decode cX12_step 56 = .ok (.aload_n 0, 1) := by decide +kernel
theorem dX12_step_57 : decode cX12_step 57 = .ok (.getfield 162, 3) := by decide +kernel
theorem dX12_step_60 : decode cX12_step 60 = .ok (.aload_n 0, 1) := by decide +kernel
theorem dX12_step_61 : decode cX12_step 61 = .ok (.getfield 67, 3) := by decide +kernel
theorem dX12_step_64 : decode cX12_step 64 = .ok (.aload_n 0, 1) := by decide +kernel
theorem dX12_step_65 : decode cX12_step 65 = .ok (.getfield 144, 3) := by decide +kernel
theorem dX12_step_68 : decode cX12_step 68 = .ok (.iload_n 1, 1) := by decide +kernel
theorem dX12_step_69 : decode cX12_step 69 = .ok (.iaload, 1) := by decide +kernel
theorem dX12_step_70 : decode cX12_step 70 = .ok (.iaload, 1) := by decide +kernel
theorem dX12_step_71 : decode cX12_step 71 = .ok (.iaload, 1) := by decide +kernel
theorem dX12_step_72 : decode cX12_step 72 = .ok (.iconst (-1), 1) := by decide +kernel
theorem dX12_step_73 : decode cX12_step 73 = .ok (.if_icmp .eq 6, 3) := by decide +kernel
theorem dX12_step_76 : decode cX12_step 76 = .ok (.goto 34, 3) := by decide +kernel
theorem dX12_step_79 : decode cX12_step 79 = .ok (.aload_n 0, 1) := by decide +kernel
theorem dX12_step_80 : decode cX12_step 80 = .ok (.getfield 138, 3) := by decide +kernel
theorem dX12_step_83 : decode cX12_step 83 = .ok (.iload_n 1, 1) := by decide +kernel
theorem dX12_step_84 : decode cX12_step 84 = .ok (.aload_n 0, 1) := by decide +kernel
theorem dX12_step_85 : decode cX12_step 85 = .ok (.getfield 49, 3) := by decide +kernel
theorem dX12_step_88 : decode cX12_step 88 = .ok (.aload_n 0, 1) := by decide +kernel
theorem dX12_step_89 : decode cX12_step 89 = .ok (.getfield 73, 3) := by decide +kernel
theorem dX12_step_92 : decode cX12_step 92 = .ok (.aload_n 0, 1) := by decide +kernel
theorem dX12_step_93 : decode cX12_step 93 = .ok (.getfield 144, 3) := by decide +kernel
theorem dX12_step_96 : decode cX12_step 96 = .ok (.iload_n 1, 1) := by decide +kernel
theorem dX12_step_97 : decode cX12_step 97 = .ok (.iaload, 1) := by decide +kernel
theorem dX12_step_98 : decode cX12_step 98 = .ok (.iaload, 1) := by decide +kernel
theorem dX12_step_99 : decode cX12_step 99 = .ok (.iaload, 1) := by decide +kernel
theorem dX12_step_100 : decode cX12_step 100 = .ok (.iastore, 1) := by decide +kernel
theorem dX12_step_101 : decode cX12_step 101 = .ok (.aload_n 0, 1) := by decide +kernel
theorem dX12_step_102 : decode cX12_step 102 = .ok (.iload_n 1, 1) := by decide +kernel
theorem dX12_step_103 : decode cX12_step 103 = .ok (.aload_n 0, 1) := by decide +kernel
theorem dX12_step_104 : decode cX12_step 104 = .ok (.getfield 443, 3) := by decide +kernel
theorem dX12_step_107 : decode cX12_step 107 = .ok (.invokevirtual 456, 3) := by decide +kernel
theorem dX12_step_110 : decode cX12_step 110 = .ok (.iinc 1 1, 3) := by decide +kernel
theorem dX12_step_113 : decode cX12_step 113 = .ok (.goto (-75), 3) := by decide +kernel
theorem dX12_step_116 : decode cX12_step 116 = .ok (.iconst 0, 1) := by decide +kernel
theorem dX12_step_117 : decode cX12_step 117 = .ok (.istore_n 1, 1) := by decide +kernel
theorem dX12_step_118 : decode cX12_step 118 = .ok (.iload_n 1, 1) := by decide +kernel
theorem dX12_step_119 : decode cX12_step 119 = .ok (.aload_n 0, 1) := by decide +kernel
theorem dX12_step_120 : decode cX12_step 120 = .ok (.getfield 254, 3) := by decide +kernel
theorem dX12_step_123 : decode cX12_step 123 = .ok (.if_icmp .ge 81, 3) := by decide +kernel
theorem dX12_step_126 : decode cX12_step 126 = .ok (.aload_n 0, 1) := by decide +kernel
theorem dX12_step_127 : decode cX12_step 127 = .ok (.getfield 135, 3) := by decide +kernel
theorem dX12_step_130 : decode cX12_step 130 = .ok (.iload_n 1, 1) := by decide +kernel
theorem dX12_step_131 : decode cX12_step 131 = .ok (.iaload, 1) := by decide +kernel
theorem dX12_step_132 : decode cX12_step 132 = .ok (.ifCond .ne 28, 3) := by decide +kernel
theorem dX12_step_135 : decode cX12_step 135 = .ok (.aload_n 0, 1) := by decide +kernel
theorem dX12_step_136 : decode cX12_step 136 = .ok (.getfield 28, 3) := by decide +kernel
theorem dX12_step_139 : decode cX12_step 139 = .ok (.iload_n 1, 1) := by decide +kernel
theorem dX12_step_140 : decode cX12_step 140 = .ok (.iaload, 1) := by decide +kernel
theorem dX12_step_141 : decode cX12_step 141 = .ok (.aload_n 0, 1) := by decide +kernel
theorem dX12_step_142 : decode cX12_step 142 = .ok (.getfield 443, 3) := by decide +kernel
theorem dX12_step_145 : decode cX12_step 145 = .ok (.if_icmp .ne 15, 3) := by decide +kernel
theorem dX12_step_148 : decode cX12_step 148 = .ok (.aload_n 0, 1) := by decide +kernel
theorem dX12_step_149 : decode cX12_step 149 = .ok (.iload_n 1, 1) := by decide +kernel
theorem dX12_step_150 : decode cX12_step 150 = .ok (.aload_n 0, 1) := by decide +kernel
theorem dX12_step_151 : decode cX12_step 151 = .ok (.getfield 443, 3) := by decide +kernel
theorem dX12_step_154 : decode cX12_step 154 = .ok (.invokevirtual 456, 3) := by decide +kernel
theorem dX12_step_157 : decode cX12_step 157 = .ok (.goto 41, 3) := by decide +kernel
theorem dX12_step_160 : decode cX12_step 160 = .ok (.aload_n 0, 1) := by decide +kernel
theorem dX12_step_161 : decode cX12_step 161 = .ok (.getfield 135, 3) := by decide +kernel
theorem dX12_step_164 : decode cX12_step 164 = .ok (.iload_n 1, 1) := by decide +kernel
theorem dX12_step_165 : decode cX12_step 165 = .ok (.iaload, 1) := by decide +kernel
theorem dX12_step_166 : decode cX12_step 166 = .ok (.iconst 1, 1) := by decide +kernel
theorem dX12_step_167 : decode cX12_step 167 = .ok (.if_icmp .eq 13, 3) := by decide +kernel
theorem dX12_step_170 : decode cX12_step 170 = .ok (.aload_n 0, 1) := by decide +kernel
theorem dX12_step_171 : decode cX12_step 171 = .ok (.getfield 135, 3) := by decide +kernel
theorem dX12_step_174 : decode cX12_step 174 = .ok (.iload_n 1, 1) := by decide +kernel
theorem dX12_step_175 : decode cX12_step 175 = .ok (.iaload, 1) := by decide +kernel
theorem dX12_step_176 : decode cX12_step 176 = .ok (.iconst 4, 1) := by decide +kernel
theorem dX12_step_177 : decode cX12_step 177 = .ok (.if_icmp .ne 21, 3) := by decide +kernel
theorem dX12_step_180 : decode cX12_step 180 = .ok (.aload_n 0, 1) := by decide +kernel
theorem dX12_step_181 : decode cX12_step 181 = .ok (.getfield 141, 3) := by decide +kernel
theorem dX12_step_184 : decode cX12_step 184 = .ok (.iload_n 1, 1) := by decide +kernel
theorem dX12_step_185 : decode cX12_step 185 = .ok (.iaload, 1) := by decide +kernel
theorem dX12_step_186 : decode cX12_step 186 = .ok (.aload_n 0, 1) := by decide +kernel
theorem dX12_step_187 : decode cX12_step 187 = .ok (.getfield 443, 3) := by decide +kernel
theorem dX12_step_190 : decode cX12_step 190 = .ok (.if_icmp .ne 8, 3) := by decide +kernel
theorem dX12_step_193 : decode cX12_step 193 = .ok (.aload_n 0, 1) := by decide +kernel
theorem dX12_step_194 : decode cX12_step 194 = .ok (.iload_n 1, 1) := by decide +kernel
theorem dX12_step_195 : decode cX12_step 195 = .ok (.invokevirtual 446, 3) := by decide +kernel
theorem dX12_step_198 : decode cX12_step 198 = .ok (.iinc 1 1, 3) := by decide +kernel
theorem dX12_step_201 : decode cX12_step 201 = .ok (.goto (-83), 3) := by decide +kernel
theorem dX12_step_204 : decode cX12_step 204 = .ok (.iconst 0, 1) := by decide +kernel
theorem dX12_step_205 : decode cX12_step 205 = .ok (.istore_n 1, 1) := by decide +kernel
theorem dX12_step_206 : decode cX12_step 206 = .ok (.iload_n 1, 1) := by decide +kernel
theorem dX12_step_207 : decode cX12_step 207 = .ok (.aload_n 0, 1) := by decide +kernel
theorem dX12_step_208 : decode cX12_step 208 = .ok (.getfield 269, 3) := by decide +kernel
theorem dX12_step_211 : decode cX12_step 211 = .ok (.if_icmp .ge 35, 3) := by decide +kernel
theorem dX12_step_214 : decode cX12_step 214 = .ok (.aload_n 0, 1) := by decide +kernel
theorem dX12_step_215 : decode cX12_step 215 = .ok (.getfield 76, 3) := by decide +kernel
theorem dX12_step_218 : decode cX12_step 218 = .ok (.iload_n 1, 1) := by decide +kernel
theorem dX12_step_219 : decode cX12_step 219 = .ok (.iaload, 1) := by decide +kernel
theorem dX12_step_220 : decode cX12_step 220 = .ok (.aload_n 0, 1) := by decide +kernel
theorem dX12_step_221 : decode cX12_step 221 = .ok (.getfield 443, 3) := by decide +kernel
theorem dX12_step_224 : decode cX12_step 224 = .ok (.if_icmp .ne 16, 3) := by decide +kernel
theorem dX12_step_227 : decode cX12_step 227 = .ok (.aload_n 0, 1) := by decide +kernel
theorem dX12_step_228 : decode cX12_step 228 = .ok (.iload_n 1, 1) := by decide +kernel
theorem dX12_step_229 : decode cX12_step 229 = .ok (.invokevirtual 426, 3) := by decide +kernel
theorem dX12_step_232 : decode cX12_step 232 = .ok (.ifCond .eq 8, 3) := by decide +kernel
theorem dX12_step_235 : decode cX12_step 235 = .ok (.aload_n 0, 1) := by decide +kernel
theorem dX12_step_236 : decode cX12_step 236 = .ok (.iload_n 1, 1) := by decide +kernel
theorem dX12_step_237 : decode cX12_step 237 = .ok (.invokevirtual 459, 3) := by decide +kernel
theorem dX12_step_240 : decode cX12_step 240 = .ok (.iinc 1 1, 3) := by decide +kernel
theorem dX12_step_243 : decode cX12_step 243 = .ok (.goto (-37), 3) := by decide +kernel
theorem dX12_step_246 : decode cX12_step 246 = .ok (.iconst 0, 1) := by decide +kernel
theorem dX12_step_247 : decode cX12_step 247 = .ok (.istore_n 1, 1) := by decide +kernel
theorem dX12_step_248 : decode cX12_step 248 = .ok (.iload_n 1, 1) := by decide +kernel
theorem dX12_step_249 : decode cX12_step 249 = .ok (.aload_n 0, 1) := by decide +kernel
theorem dX12_step_250 : decode cX12_step 250 = .ok (.getfield 254, 3) := by decide +kernel
theorem dX12_step_253 : decode cX12_step 253 = .ok (.if_icmp .ge 51, 3) := by decide +kernel
theorem dX12_step_256 : decode cX12_step 256 = .ok (.aload_n 0, 1) := by decide +kernel
theorem dX12_step_257 : decode cX12_step 257 = .ok (.getfield 135, 3) := by decide +kernel
theorem dX12_step_260 : decode cX12_step 260 = .ok (.iload_n 1, 1) := by decide +kernel
theorem dX12_step_261 : decode cX12_step 261 = .ok (.iaload, 1) := by decide +kernel
theorem dX12_step_262 : decode cX12_step 262 = .ok (.iconst 2, 1) := by decide +kernel
theorem dX12_step_263 : decode cX12_step 263 = .ok (.if_icmp .ne 35, 3) := by decide +kernel
theorem dX12_step_266 : decode cX12_step 266 = .ok (.aload_n 0, 1) := by decide +kernel
theorem dX12_step_267 : decode cX12_step 267 = .ok (.getfield 76, 3) := by decide +kernel
theorem dX12_step_270 : decode cX12_step 270 = .ok (.aload_n 0, 1) := by decide +kernel
theorem dX12_step_271 : decode cX12_step 271 = .ok (.getfield 144, 3) := by decide +kernel
theorem dX12_step_274 : decode cX12_step 274 = .ok (.iload_n 1, 1) := by decide +kernel
theorem dX12_step_275 : decode cX12_step 275 = .ok (.iaload, 1) := by decide +kernel
theorem dX12_step_276 : decode cX12_step 276 = .ok (.iaload, 1) := by decide +kernel
theorem dX12_step_277 : decode cX12_step 277 = .ok (.aload_n 0, 1) := by decide +kernel
theorem dX12_step_278 : decode cX12_step 278 = .ok (.getfield 443, 3) := by decide +kernel
theorem dX12_step_281 : decode cX12_step 281 = .ok (.if_icmp .eq 6, 3) := by decide +kernel
theorem dX12_step_284 : decode cX12_step 284 = .ok (.goto 14, 3) := by decide +kernel
theorem dX12_step_287 : decode cX12_step 287 = .ok (.aload_n 0, 1) := by decide +kernel
theorem dX12_step_288 : decode cX12_step 288 = .ok (.iload_n 1, 1) := by decide +kernel
theorem dX12_step_289 : decode cX12_step 289 = .ok (.aload_n 0, 1) := by decide +kernel
theorem dX12_step_290 : decode cX12_step 290 = .ok (.getfield 443, 3) := by decide +kernel
theorem dX12_step_293 : decode cX12_step 293 = .ok (.iconst 1, 1) := by decide +kernel
theorem dX12_step_294 : decode cX12_step 294 = .ok (.iadd, 1) := by decide +kernel
theorem dX12_step_295 : decode cX12_step 295 = .ok (.invokevirtual 456, 3) := by decide +kernel
theorem dX12_step_298 : decode cX12_step 298 = .ok (.iinc 1 1, 3) := by decide +kernel
theorem dX12_step_301 : decode cX12_step 301 = .ok (.goto (-53), 3) := by decide +kernel
theorem dX12_step_304 : decode cX12_step 304 = .ok (.return_, 1) := by decide +kernel
theorem dX12_tried_0 : decode cX12_tried 0 = .ok (.aload_n 0, 1) := by decide +kernel
theorem dX12_tried_1 : decode cX12_tried 1 = .ok (.iconst 0, 1) := by decide +kernel
theorem dX12_tried_2 : decode cX12_tried 2 = .ok (.putfield 204, 3) := by decide +kernel
theorem dX12_tried_5 : decode cX12_tried 5 = .ok (.aload_n 0, 1) := by decide +kernel
theorem dX12_tried_6 : decode cX12_tried 6 = .ok (.iload_n 1, 1) := by decide +kernel
theorem dX12_tried_7 : decode cX12_tried 7 = .ok (.invokevirtual 266, 3) := by decide +kernel
theorem dX12_tried_10 : decode cX12_tried 10 = .ok (.ifCond .eq 14, 3) := by decide +kernel
theorem dX12_tried_13 : decode cX12_tried 13 = .ok (.aload_n 0, 1) := by decide +kernel
theorem dX12_tried_14 : decode cX12_tried 14 = .ok (.getfield 183, 3) := by decide +kernel
theorem dX12_tried_17 : decode cX12_tried 17 = .ok (.aload_n 0, 1) := by decide +kernel
theorem dX12_tried_18 : decode cX12_tried 18 = .ok (.getfield 218, 3) := by decide +kernel
theorem dX12_tried_21 : decode cX12_tried 21 = .ok (.if_icmp .ne 5, 3) := by decide +kernel
theorem dX12_tried_24 : decode cX12_tried 24 = .ok (.iconst (-1), 1) := by decide +kernel
theorem dX12_tried_25 : decode cX12_tried 25 = .ok (.ireturn, 1) := by decide +kernel
theorem dX12_tried_26 : decode cX12_tried 26 = .ok (.aload_n 0, 1) := by decide +kernel
theorem dX12_tried_27 : decode cX12_tried 27 = .ok (.iconst 0, 1) := by decide +kernel
theorem dX12_tried_28 : decode cX12_tried 28 = .ok (.putfield 474, 3) := by decide +kernel
theorem dX12_tried_31 : decode cX12_tried 31 = .ok (.aload_n 0, 1) := by decide +kernel
theorem dX12_tried_32 : decode cX12_tried 32 = .ok (.getfield 272, 3) := by decide +kernel
theorem dX12_tried_35 : decode cX12_tried 35 = .ok (.istore_n 2, 1) := by decide +kernel
theorem dX12_tried_36 : decode cX12_tried 36 = .ok (.aload_n 0, 1) := by decide +kernel
theorem dX12_tried_37 : decode cX12_tried 37 = .ok (.aload_n 0, 1) := by decide +kernel
theorem dX12_tried_38 : decode cX12_tried 38 = .ok (.getfield 37, 3) := by decide +kernel
theorem dX12_tried_41 : decode cX12_tried 41 = .ok (.aload_n 0, 1) := by decide +kernel
theorem dX12_tried_42 : decode cX12_tried 42 = .ok (.getfield 254, 3) := by decide +kernel
theorem dX12_tried_45 : decode cX12_tried 45 = .ok (.invokevirtual 477, 3) := by decide +kernel
theorem dX12_tried_48 : decode cX12_tried 48 = .ok (.aload_n 0, 1) := by decide +kernel
theorem dX12_tried_49 : decode cX12_tried 49 = .ok (.aload_n 0, 1) := by decide +kernel
theorem dX12_tried_50 : decode cX12_tried 50 = .ok (.getfield 40, 3) := by decide +kernel
theorem dX12_tried_53 : decode cX12_tried 53 = .ok (.aload_n 0, 1) := by decide +kernel
theorem dX12_tried_54 : decode cX12_tried 54 = .ok (.getfield 254, 3) := by decide +kernel
theorem dX12_tried_57 : decode cX12_tried 57 = .ok (.invokevirtual 477, 3) := by decide +kernel
theorem dX12_tried_60 : decode cX12_tried 60 = .ok (.aload_n 0, 1) := by decide +kernel
theorem dX12_tried_61 : decode cX12_tried 61 = .ok (.aload_n 0, 1) := by decide +kernel
theorem dX12_tried_62 : decode cX12_tried 62 = .ok (.getfield 46, 3) := by decide +kernel
theorem dX12_tried_65 : decode cX12_tried 65 = .ok (.aload_n 0, 1) := by decide +kernel
theorem dX12_tried_66 : decode cX12_tried 66 = .ok (.getfield 254, 3) := by decide +kernel
theorem dX12_tried_69 : decode cX12_tried 69 = .ok (.invokevirtual 477, 3) := by decide +kernel
theorem dX12_tried_72 : decode cX12_tried 72 = .ok (.aload_n 0, 1) := by decide +kernel
theorem dX12_tried_73 : decode cX12_tried 73 = .ok (.aload_n 0, 1) := by decide +kernel
theorem dX12_tried_74 : decode cX12_tried 74 = .ok (.getfield 147, 3) := by decide +kernel
theorem dX12_tried_77 : decode cX12_tried 77 = .ok (.aload_n 0, 1) := by decide +kernel
theorem dX12_tried_78 : decode cX12_tried 78 = .ok (.getfield 254, 3) := by decide +kernel
theorem dX12_tried_81 : decode cX12_tried 81 = .ok (.invokevirtual 477, 3) := by decide +kernel
theorem dX12_tried_84 : decode cX12_tried 84 = .ok (.aload_n 0, 1) := by decide +kernel
theorem dX12_tried_85 : decode cX12_tried 85 = .ok (.aload_n 0, 1) := by decide +kernel
theorem dX12_tried_86 : decode cX12_tried 86 = .ok (.getfield 150, 3) := by decide +kernel
theorem dX12_tried_89 : decode cX12_tried 89 = .ok (.aload_n 0, 1) := by decide +kernel
theorem dX12_tried_90 : decode cX12_tried 90 = .ok (.getfield 254, 3) := by decide +kernel
theorem dX12_tried_93 : decode cX12_tried 93 = .ok (.invokevirtual 477, 3) := by decide +kernel
theorem dX12_tried_96 : decode cX12_tried 96 = .ok (.aload_n 0, 1) := by decide +kernel
theorem dX12_tried_97 : decode cX12_tried 97 = .ok (.aload_n 0, 1) := by decide +kernel
theorem dX12_tried_98 : decode cX12_tried 98 = .ok (.getfield 153, 3) := by decide +kernel
theorem dX12_tried_101 : decode cX12_tried 101 = .ok (.aload_n 0, 1) := by decide +kernel
theorem dX12_tried_102 : decode cX12_tried 102 = .ok (.getfield 254, 3) := by decide +kernel
theorem dX12_tried_105 : decode cX12_tried 105 = .ok (.invokevirtual 477, 3) := by decide +kernel
theorem dX12_tried_108 : decode cX12_tried 108 = .ok (.aload_n 0, 1) := by decide +kernel
theorem dX12_tried_109 : decode cX12_tried 109 = .ok (.aload_n 0, 1) := by decide +kernel
theorem dX12_tried_110 : decode cX12_tried 110 = .ok (.getfield 156, 3) := by decide +kernel
theorem dX12_tried_113 : decode cX12_tried 113 = .ok (.aload_n 0, 1) := by decide +kernel
theorem dX12_tried_114 : decode cX12_tried 114 = .ok (.getfield 254, 3) := by decide +kernel
theorem dX12_tried_117 : decode cX12_tried 117 = .ok (.invokevirtual 477, 3) := by decide +kernel
theorem dX12_tried_120 : decode cX12_tried 120 = .ok (.aload_n 0, 1) := by decide +kernel
theorem dX12_tried_121 : decode cX12_tried 121 = .ok (.aload_n 0, 1) := by decide +kernel
theorem dX12_tried_122 : decode cX12_tried 122 = .ok (.getfield 64, 3) := by decide +kernel
theorem dX12_tried_125 : decode cX12_tried 125 = .ok (.aload_n 0, 1) := by decide +kernel
theorem dX12_tried_126 : decode cX12_tried 126 = .ok (.getfield 263, 3) := by decide +kernel
theorem dX12_tried_129 : decode cX12_tried 129 = .ok (.invokevirtual 477, 3) := by decide +kernel
theorem dX12_tried_132 : decode cX12_tried 132 = .ok (.aload_n 0, 1) := by decide +kernel
theorem dX12_tried_133 : decode cX12_tried 133 = .ok (.aload_n 0, 1) := by decide +kernel
theorem dX12_tried_134 : decode cX12_tried 134 = .ok (.getfield 159, 3) := by decide +kernel
theorem dX12_tried_137 : decode cX12_tried 137 = .ok (.aload_n 0, 1) := by decide +kernel
theorem dX12_tried_138 : decode cX12_tried 138 = .ok (.getfield 263, 3) := by decide +kernel
theorem dX12_tried_141 : decode cX12_tried 141 = .ok (.invokevirtual 477, 3) := by decide +kernel
theorem dX12_tried_144 : decode cX12_tried 144 = .ok (.aload_n 0, 1) := by decide +kernel
theorem dX12_tried_145 : decode cX12_tried 145 = .ok (.aload_n 0, 1) := by decide +kernel
theorem dX12_tried_146 : decode cX12_tried 146 = .ok (.getfield 165, 3) := by decide +kernel
theorem dX12_tried_149 : decode cX12_tried 149 = .ok (.aload_n 0, 1) := by decide +kernel
theorem dX12_tried_150 : decode cX12_tried 150 = .ok (.getfield 263, 3) := by decide +kernel
theorem dX12_tried_153 : decode cX12_tried 153 = .ok (.invokevirtual 477, 3) := by decide +kernel
theorem dX12_tried_156 : decode cX12_tried 156 = .ok (.aload_n 0, 1) := by decide +kernel
theorem dX12_tried_157 : decode cX12_tried 157 = .ok (.aload_n 0, 1) := by decide +kernel
theorem dX12_tried_158 : decode cX12_tried 158 = .ok (.getfield 168, 3) := by decide +kernel
theorem dX12_tried_161 : decode cX12_tried 161 = .ok (.aload_n 0, 1) := by decide +kernel
theorem dX12_tried_162 : decode cX12_tried 162 = .ok (.getfield 263, 3) := by decide +kernel
theorem dX12_tried_165 : decode cX12_tried 165 = .ok (.invokevirtual 477, 3) := by decide +kernel
theorem dX12_tried_168 : decode cX12_tried 168 = .ok (.aload_n 0, 1) := by decide +kernel
theorem dX12_tried_169 : decode cX12_tried 169 = .ok (.iload_n 1, 1) := by decide +kernel
theorem dX12_tried_170 : decode cX12_tried 170 = .ok (.invokevirtual 468, 3) := by decide +kernel
theorem dX12_tried_173 : decode cX12_tried 173 = .ok (.aload_n 0, 1) := by decide +kernel
theorem dX12_tried_174 : decode cX12_tried 174 = .ok (.invokevirtual 471, 3) := by decide +kernel
theorem dX12_tried_177 : decode cX12_tried 177 = .ok (.istore_n 3, 1) := by decide +kernel
theorem dX12_tried_178 : decode cX12_tried 178 = .ok (.aload_n 0, 1) := by decide +kernel
theorem dX12_tried_179 : decode cX12_tried 179 = .ok (.iconst 0, 1) := by decide +kernel
theorem dX12_tried_180 : decode cX12_tried 180 = .ok (.putfield 474, 3) := by decide +kernel
theorem dX12_tried_183 : decode cX12_tried 183 = .ok (.aload_n 0, 1) := by decide +kernel
theorem dX12_tried_184 : decode cX12_tried 184 = .ok (.iload_n 2, 1) := by decide +kernel
theorem dX12_tried_185 : decode cX12_tried 185 = .ok (.putfield 272, 3) := by decide +kernel
theorem dX12_tried_188 : decode cX12_tried 188 = .ok (.aload_n 0, 1) := by decide +kernel
theorem dX12_tried_189 : decode cX12_tried 189 = .ok (.aload_n 0, 1) := by decide +kernel
theorem dX12_tried_190 : decode cX12_tried 190 = .ok (.getfield 37, 3) := by decide +kernel
theorem dX12_tried_193 : decode cX12_tried 193 = .ok (.aload_n 0, 1) := by decide +kernel
theorem dX12_tried_194 : decode cX12_tried 194 = .ok (.getfield 254, 3) := by decide +kernel
theorem dX12_tried_197 : decode cX12_tried 197 = .ok (.invokevirtual 481, 3) := by decide +kernel
theorem dX12_tried_200 : decode cX12_tried 200 = .ok (.aload_n 0, 1) := by decide +kernel
theorem dX12_tried_201 : decode cX12_tried 201 = .ok (.aload_n 0, 1) := by decide +kernel
theorem dX12_tried_202 : decode cX12_tried 202 = .ok (.getfield 40, 3) := by decide +kernel
theorem dX12_tried_205 : decode cX12_tried 205 = .ok (.aload_n 0, 1) := by decide +kernel
theorem dX12_tried_206 : decode cX12_tried 206 = .ok (.getfield 254, 3) := by decide +kernel
theorem dX12_tried_209 : decode cX12_tried 209 = .ok (.invokevirtual 481, 3) := by decide +kernel
theorem dX12_tried_212 : decode cX12_tried 212 = .ok (.aload_n 0, 1) := by decide +kernel
theorem dX12_tried_213 : decode cX12_tried 213 = .ok (.aload_n 0, 1) := by decide +kernel
theorem dX12_tried_214 : decode cX12_tried 214 = .ok (.getfield 46, 3) := by decide +kernel
theorem dX12_tried_217 : decode cX12_tried 217 = .ok (.aload_n 0, 1) := by decide +kernel
theorem dX12_tried_218 : decode cX12_tried 218 = .ok (.getfield 254, 3) := by decide +kernel
theorem dX12_tried_221 : decode cX12_tried 221 = .ok (.invokevirtual 481, 3) := by decide +kernel
theorem dX12_tried_224 : decode cX12_tried 224 = .ok (.aload_n 0, 1) := by decide +kernel
theorem dX12_tried_225 : decode cX12_tried 225 = .ok (.aload_n 0, 1) := by decide +kernel
theorem dX12_tried_226 : decode cX12_tried 226 = .ok (.getfield 147, 3) := by decide +kernel
theorem dX12_tried_229 : decode cX12_tried 229 = .ok (.aload_n 0, 1) := by decide +kernel
theorem dX12_tried_230 : decode cX12_tried 230 = .ok (.getfield 254, 3) := by decide +kernel
theorem dX12_tried_233 : decode cX12_tried 233 = .ok (.invokevirtual 481, 3) := by decide +kernel
theorem dX12_tried_236 : decode cX12_tried 236 = .ok (.aload_n 0, 1) := by decide +kernel
theorem dX12_tried_237 : decode cX12_tried 237 = .ok (.aload_n 0, 1) := by decide +kernel
theorem dX12_tried_238 : decode cX12_tried 238 = .ok (.getfield 150, 3) := by decide +kernel
theorem dX12_tried_241 : decode cX12_tried 241 = .ok (.aload_n 0, 1) := by decide +kernel
theorem dX12_tried_242 : decode cX12_tried 242 = .ok (.getfield 254, 3) := by decide +kernel
theorem dX12_tried_245 : decode cX12_tried 245 = .ok (.invokevirtual 481, 3) := by decide +kernel
theorem dX12_tried_248 : decode cX12_tried 248 = .ok (.aload_n 0, 1) := by decide +kernel
theorem dX12_tried_249 : decode cX12_tried 249 = .ok (.aload_n 0, 1) := by decide +kernel
theorem dX12_tried_250 : decode cX12_tried 250 = .ok (.getfield 153, 3) := by decide +kernel
theorem dX12_tried_253 : decode cX12_tried 253 = .ok (.aload_n 0, 1) := by decide +kernel
theorem dX12_tried_254 : decode cX12_tried 254 = .ok (.getfield 254, 3) := by decide +kernel
theorem dX12_tried_257 : decode cX12_tried 257 = .ok (.invokevirtual 481, 3) := by decide +kernel
theorem dX12_tried_260 : decode cX12_tried 260 = .ok (.aload_n 0, 1) := by decide +kernel
theorem dX12_tried_261 : decode cX12_tried 261 = .ok (.aload_n 0, 1) := by decide +kernel
theorem dX12_tried_262 : decode cX12_tried 262 = .ok (.getfield 156, 3) := by decide +kernel
theorem dX12_tried_265 : decode cX12_tried 265 = .ok (.aload_n 0, 1) := by decide +kernel
theorem dX12_tried_266 : decode cX12_tried 266 = .ok (.getfield 254, 3) := by decide +kernel
theorem dX12_tried_269 : decode cX12_tried 269 = .ok (.invokevirtual 481, 3) := by decide +kernel
theorem dX12_tried_272 : decode cX12_tried 272 = .ok (.aload_n 0, 1) := by decide +kernel
theorem dX12_tried_273 : decode cX12_tried 273 = .ok (.aload_n 0, 1) := by decide +kernel
theorem dX12_tried_274 : decode cX12_tried 274 = .ok (.getfield 64, 3) := by decide +kernel
theorem dX12_tried_277 : decode cX12_tried 277 = .ok (.aload_n 0, 1) := by decide +kernel
theorem dX12_tried_278 : decode cX12_tried 278 = .ok (.getfield 263, 3) := by decide +kernel
theorem dX12_tried_281 : decode cX12_tried 281 = .ok (.invokevirtual 481, 3) := by decide +kernel
theorem dX12_tried_284 : decode cX12_tried 284 = .ok (.aload_n 0, 1) := by decide +kernel
theorem dX12_tried_285 : decode cX12_tried 285 = .ok (.aload_n 0, 1) := by decide +kernel
theorem dX12_tried_286 : decode cX12_tried 286 = .ok (.getfield 159, 3) := by decide +kernel
theorem dX12_tried_289 : decode cX12_tried 289 = .ok (.aload_n 0, 1) := by decide +kernel
theorem dX12_tried_290 : decode cX12_tried 290 = .ok (.getfield 263, 3) := by decide +kernel
theorem dX12_tried_293 : decode cX12_tried 293 = .ok (.invokevirtual 481, 3) := by decide +kernel
theorem dX12_tried_296 : decode cX12_tried 296 = .ok (.aload_n 0, 1) := by decide +kernel
theorem dX12_tried_297 : decode cX12_tried 297 = .ok (.aload_n 0, 1) := by decide +kernel
theorem dX12_tried_298 : decode cX12_tried 298 = .ok (.getfield 165, 3) := by decide +kernel
theorem dX12_tried_301 : decode cX12_tried 301 = .ok (.aload_n 0, 1) := by decide +kernel
theorem dX12_tried_302 : decode cX12_tried 302 = .ok (.getfield 263, 3) := by decide +kernel
theorem dX12_tried_305 : decode cX12_tried 305 = .ok (.invokevirtual 481, 3) := by decide +kernel
theorem dX12_tried_308 : decode cX12_tried 308 = .ok (.aload_n 0, 1) := by decide +kernel
theorem dX12_tried_309 : decode cX12_tried 309 = .ok (.aload_n 0, 1) := by decide +kernel
theorem dX12_tried_310 : decode cX12_tried 310 = .ok (.getfield 168, 3) := by decide +kernel
theorem dX12_tried_313 : decode cX12_tried 313 = .ok (.aload_n 0, 1) := by decide +kernel
theorem dX12_tried_314 : decode cX12_tried 314 = .ok (.getfield 263, 3) := by decide +kernel
theorem dX12_tried_317 : decode cX12_tried 317 = .ok (.invokevirtual 481, 3) := by decide +kernel
theorem dX12_tried_320 : decode cX12_tried 320 = .ok (.iload_n 3, 1) := by decide +kernel
theorem dX12_tried_321 : decode cX12_tried 321 = .ok (.ireturn, 1) := by decide +kernel
set_option maxHeartbeats 4000000 in
set_option maxRecDepth 100000 in
theorem m_leave (l : Launch) (dC : Nat → ClassId) (dI : Nat → Nat → Nat) (sz h : Nat) (ad : Nat → Nat) (cA : Nat → ClassId) (hd : dM h ad) (fv : Nat → Int32) (wd : Int64) (ar : Nat → Nat → Int32) (hF_fv : rF fv) (hA_ar : rA ar) (G9 : Nat → Int) (kk : Int32) (h_kk : 0 ≤ kk.toInt ∧ kk.toInt ≤ 79) (hp_sW : sW ar) (hp_vM : vM fv ar) (hp_mF : wt_fm G9 (fv 8) (ar 4)) : Met l yX12_leave (.code yX12_leave cX12_leave 10 none :: lw_good) ({ frames := 6, cells := 0, slots := 0, locals := 128 }) (va_Pc [.ref h, .int kk] (prM dC dI h ad cA fv wd ar sz)) (va_Qv (fun (u : mS) => rF u.1 ∧ rA u.2.2 ∧ fM [8, 36, 66] fv u.1 ∧ fA [4, 16, 24, 64, 65, 68, 75, 76, 77, 78, 79, 80] ar u.2.2 ∧ (sW u.2.2) ∧ (wt_fm G9 (u.1 8) (u.2.2 4)) ∧ True) (enM dC dI h ad cA) (aM h ad sz)) 0 0 (aM h ad sz) := by
  refine Met.ofW (cc := cX12_leave) (maxL := 10) (ret := none) (by decide) rfl ?_
  intro p e s m args below meth c s₁ B hml hv
  obtain ⟨rfl, hsz, hP, hK⟩ := hv
  have hx := B.exec
  have hb := B.bytes
  have hr := B.returns
  have hts := atoms_spec (ws := (.code yX12_leave cX12_leave 10 none :: lw_good)) B.pre
  have htg : ∀ w ∈ lw_good, w.before _ s = true := fun w hw => hts w (List.mem_cons_of_mem _ hw)
  have hown : s.vm.findClass RX12 = some m.cls := findClass_of_methodNamed B.named
  have hlocks := B.notSynchronized
  subst hsz
  have hS : va_S (aM h ad s.heap.size) s.heap s.heap [] := va_S.rf
  have hl := lv_entry ([.ref h, .int kk]) (n := 10) (Nat.le_of_ble_eq_true rfl)
  rw [lg_entry_eq]
  generalize (lg_sl ([.ref h, .int kk]) ++ List.replicate (10 - (lg_sl ([.ref h, .int kk])).length) Slot.unset).toArray = ls at hl ⊢
  have hl : lv_has ls 10 [(0, .ref h), (1, .int kk)] := hl
  refine lv_aload_n hx hb dX12_leave_0 rfl (lv_at hl 0 rfl) ?_
  refine gM_25 hx hb htg hown hK hP dX12_leave_1 ?_
  refine lv_iload_n hx hb dX12_leave_4 rfl (lv_at hl 1 rfl) ?_
  refine lM_25 hx hb hK hP (iv_in h_kk (by decide) (by decide)) dX12_leave_5 (fun v_1 ev_1 => ?_)
  have i_2 : 0 ≤ v_1.toInt ∧ v_1.toInt ≤ 19 := ev_1 ▸ hA_ar 25 _
  refine lv_istore_n (lv' := [(2, .int v_1), (0, .ref h), (1, .int kk)]) hx hb dX12_leave_6 rfl hl (by decide) rfl (fun ls hl => ?_)
  refine lv_aload_n hx hb dX12_leave_7 rfl (lv_at hl 1 rfl) ?_
  refine gM_80 hx hb htg hown hK hP dX12_leave_8 ?_
  refine lv_iload_n hx hb dX12_leave_11 rfl (lv_at hl 2 rfl) ?_
  refine lv_bipush (v := (-2)) hx hb dX12_leave_12 (by decide) ?_
  refine sM_80 hx hb hK hP hS hd (iv_in h_kk (by decide) (by decide)) dX12_leave_14 (fun H locs ar_3 ear_3 hP hS => ?_)
  have hA_ar_3 : rA ar_3 := rA_put hA_ar ear_3 (iv_any _)
  refine lv_aload_n hx hb dX12_leave_15 rfl (lv_at hl 1 rfl) ?_
  refine gM_79 hx hb htg hown hK hP dX12_leave_16 ?_
  refine lv_iload_n hx hb dX12_leave_19 rfl (lv_at hl 0 rfl) ?_
  refine lM_79 hx hb hK hP (iv_in i_2 (by decide) (by decide)) dX12_leave_20 (fun v_4 ev_4 => ?_)
  refine lv_iconst (v := 1) hx hb dX12_leave_21 (by decide) ?_
  refine lv_icmp_eq (tgt := 76) hx hb dX12_leave_22 (by decide) (fun c_5 => ?_) (fun c_5 => ?_)
  · skip
    have i_6 : 1 ≤ v_4.toInt ∧ v_4.toInt ≤ 1 := iv_eq1 (⟨by decide, by decide⟩ : (1 : Int) ≤ (1 : Int32).toInt ∧ (1 : Int32).toInt ≤ 1) c_5
    exact W.vret hx hb hr (fun t ht hW => ⟨⟨(fv, wd, ar_3), rfl, ⟨hF_fv, hA_ar_3, (fM_rf [8, 36, 66] _), (fA_put (fA_rf [4, 16, 24, 64, 65, 68, 75, 76, 77, 78, 79, 80] _) ear_3 (by decide)), (sW_fr hp_sW (fA_put (fA_rf [80] _) ear_3 (by decide)) rfl rfl), (mF_fr hp_mF (fM_rf [] _) (fA_put (fA_rf [80] _) ear_3 (by decide)) rfl rfl), trivial⟩, ⟨by rw [ht]; exact hP, va_K.moved hW.alike hK⟩⟩, hS.F ht⟩) hS.2.2 dX12_leave_76
  · skip
    refine lv_aload_n hx hb dX12_leave_25 rfl (lv_at hl 1 rfl) ?_
    refine gM_77 hx hb htg hown hK hP dX12_leave_26 ?_
    refine lv_iload_n hx hb dX12_leave_29 rfl (lv_at hl 0 rfl) ?_
    refine lM_77 hx hb hK hP (iv_in i_2 (by decide) (by decide)) dX12_leave_30 (fun v_7 ev_7 => ?_)
    refine lv_iconst (v := (-1)) hx hb dX12_leave_31 (by decide) ?_
    refine lv_icmp_ne (tgt := 76) hx hb dX12_leave_32 (by decide) (fun c_8 => ?_) (fun c_8 => ?_)
    · skip
      exact W.vret hx hb hr (fun t ht hW => ⟨⟨(fv, wd, ar_3), rfl, ⟨hF_fv, hA_ar_3, (fM_rf [8, 36, 66] _), (fA_put (fA_rf [4, 16, 24, 64, 65, 68, 75, 76, 77, 78, 79, 80] _) ear_3 (by decide)), (sW_fr hp_sW (fA_put (fA_rf [80] _) ear_3 (by decide)) rfl rfl), (mF_fr hp_mF (fM_rf [] _) (fA_put (fA_rf [80] _) ear_3 (by decide)) rfl rfl), trivial⟩, ⟨by rw [ht]; exact hP, va_K.moved hW.alike hK⟩⟩, hS.F ht⟩) hS.2.2 dX12_leave_76
    · skip
      have i_9 : (-1) ≤ v_7.toInt ∧ v_7.toInt ≤ (-1) := iv_eq1 (⟨by decide, by decide⟩ : (-1 : Int) ≤ ((-1) : Int32).toInt ∧ ((-1) : Int32).toInt ≤ -1) c_8
      refine lv_aload_n hx hb dX12_leave_35 rfl (lv_at hl 1 rfl) ?_
      refine gM_76 hx hb htg hown hK hP dX12_leave_36 ?_
      refine lv_iload_n hx hb dX12_leave_39 rfl (lv_at hl 0 rfl) ?_
      refine lM_76 hx hb hK hP (iv_in i_2 (by decide) (by decide)) dX12_leave_40 (fun v_10 ev_10 => ?_)
      refine lv_aload_n hx hb dX12_leave_41 rfl (lv_at hl 1 rfl) ?_
      refine gM_26 hx hb htg hown hK hP dX12_leave_42 ?_
      refine lv_iload_n hx hb dX12_leave_45 rfl (lv_at hl 2 rfl) ?_
      refine lM_26 hx hb hK hP (iv_in h_kk (by decide) (by decide)) dX12_leave_46 (fun v_11 ev_11 => ?_)
      have i_12 : 0 ≤ v_11.toInt ∧ v_11.toInt ≤ 7 := ev_11 ▸ hA_ar_3 26 _
      refine lv_icmp_ne (tgt := 76) hx hb dX12_leave_47 (by decide) (fun c_13 => ?_) (fun c_13 => ?_)
      · skip
        exact W.vret hx hb hr (fun t ht hW => ⟨⟨(fv, wd, ar_3), rfl, ⟨hF_fv, hA_ar_3, (fM_rf [8, 36, 66] _), (fA_put (fA_rf [4, 16, 24, 64, 65, 68, 75, 76, 77, 78, 79, 80] _) ear_3 (by decide)), (sW_fr hp_sW (fA_put (fA_rf [80] _) ear_3 (by decide)) rfl rfl), (mF_fr hp_mF (fM_rf [] _) (fA_put (fA_rf [80] _) ear_3 (by decide)) rfl rfl), trivial⟩, ⟨by rw [ht]; exact hP, va_K.moved hW.alike hK⟩⟩, hS.F ht⟩) hS.2.2 dX12_leave_76
      · skip
        have i_14 : 0 ≤ v_10.toInt ∧ v_10.toInt ≤ 7 := iv_eq1 i_12 c_13
        refine lv_aload_n hx hb dX12_leave_50 rfl (lv_at hl 1 rfl) ?_
        refine lv_iload_n hx hb dX12_leave_51 rfl (lv_at hl 2 rfl) ?_
        refine va_calli (va_runV (As := [.int kk]) (rest := []) ⟨hx, hb, hml, hown, hts⟩ (m_tripFar l dC dI H.size h ad cA hd fv wd ar_3 hF_fv hA_ar_3 G9 kk h_kk (mF_fr hp_mF (fM_rf [] _) (fA_put (fA_rf [80] _) ear_3 (by decide)) rfl rfl)) (cwV 1 hts (gV kw_8_200 kw_8_202 kw_p_90 kw_1_15 kw_8_203) rfl rfl rfl (by decide +kernel) ⟨Nat.le_of_ble_eq_true rfl, Nat.le_of_ble_eq_true rfl⟩) ⟨fun a U g mk q => ⟨q.1, q.2.1, q.2.2.1, va_K.moved (u := U) (U := U.calling g mk a) (Vm.Alike.refl U.vm) q.2.2.2⟩, va_recv hK hP (ci := 12) (q0 := 0) rfl rfl, fun U hU hW => ⟨rfl, by rw [hU], by rw [hU]; exact hP, va_K.moved hW.alike hK⟩⟩ rfl rfl hl.1 rfl (lv_room (Nat.le_of_ble_eq_true rfl)) dX12_leave_52 ⟨Nat.le_of_ble_eq_true rfl, Nat.le_of_ble_eq_true rfl⟩) hS (fun q _ h9 => aM_up hS q h9) (aM_up hS) (fun r_15 u t H1 locs ht _ hw hB _ hk1 hS => ?_)
        obtain ⟨fv_17, wd_18, ar_19⟩ := u
        obtain ⟨hF_fv_17, hA_ar_19, fr_20, fa_21, p_16, -⟩ := hw
        have hP : va_P (dC, dI) vwCl (wsM h ad cA fv_17 wd_18 ar_19) H1 := by have h9 := hB.1; rw [ht] at h9; exact h9
        have fr_20 : fM [8] fv fv_17 := fr_20
        have fa_21 : fA [4] ar_3 ar_19 := fa_21
        have p_16 : wt_fm G9 (fv_17 8) (ar_19 4) := p_16
        generalize H1 = H at hP hS ⊢
        refine lv_ldc hx hb hown (htg (.constant RX12 225 100000) kw_7_232) dX12_leave_55 ?_
        refine lv_icmp_ge (tgt := 76) hx hb dX12_leave_57 (by decide) (fun c_22 => ?_) (fun c_22 => ?_)
        · skip
          have i_23 : 100000 ≤ r_15.toInt ∧ r_15.toInt ≤ 2147483647 := iv_le2 (⟨by decide, by decide⟩ : (100000 : Int) ≤ (100000 : Int32).toInt ∧ (100000 : Int32).toInt ≤ 100000) (iv_any r_15) c_22
          exact W.vret hx hb hr (fun t ht hW => ⟨⟨(fv_17, wd_18, ar_19), rfl, ⟨hF_fv_17, hA_ar_19, (fM_call (fM_rf [8, 36, 66] _) fr_20 (by decide)), (fA_call (fA_put (fA_rf [4, 16, 24, 64, 65, 68, 75, 76, 77, 78, 79, 80] _) ear_3 (by decide)) fa_21 (by decide)), (sW_fr hp_sW (fA_call (fA_put (fA_rf [4, 80] _) ear_3 (by decide)) fa_21 (by decide)) rfl rfl), p_16, trivial⟩, ⟨by rw [ht]; exact hP, va_K.moved hW.alike hK⟩⟩, hS.F ht⟩) hS.2.2 dX12_leave_76
        · skip
          have i_24 : (-2147483648) ≤ r_15.toInt ∧ r_15.toInt ≤ 99999 := iv_lt1 (iv_any r_15) (⟨by decide, by decide⟩ : (100000 : Int) ≤ (100000 : Int32).toInt ∧ (100000 : Int32).toInt ≤ 100000) (Int32.not_le.mp c_22)
          refine lv_aload_n hx hb dX12_leave_60 rfl (lv_at hl 1 rfl) ?_
          refine lv_iload_n hx hb dX12_leave_61 rfl (lv_at hl 2 rfl) ?_
          refine lv_iconst (v := 0) hx hb dX12_leave_62 (by decide) ?_
          refine lv_iconst (v := 0) hx hb dX12_leave_63 (by decide) ?_
          refine lv_aload_n hx hb dX12_leave_64 rfl (lv_at hl 1 rfl) ?_
          refine gM_78 hx hb htg hown hK hP dX12_leave_65 ?_
          refine lv_iload_n hx hb dX12_leave_68 rfl (lv_at hl 0 rfl) ?_
          refine lM_78 hx hb hK hP (iv_in i_2 (by decide) (by decide)) dX12_leave_69 (fun v_25 ev_25 => ?_)
          refine va_calli (va_runV (As := [.int kk, .int 0, .int 0, .int v_25]) (rest := []) ⟨hx, hb, hml, hown, hts⟩ (m_tells l dC dI H.size h ad cA hd fv_17 wd_18 ar_19 hF_fv_17 hA_ar_19 kk 0 0 v_25 h_kk (vM_fr hp_vM (fM_call (fM_rf [8] _) fr_20 (by decide)) (fA_call (fA_put (fA_rf [4, 80] _) ear_3 (by decide)) fa_21 (by decide)) rfl rfl rfl rfl rfl)) (cwV 4 hts (gV kw_8_145 kw_8_147 kw_p_79 kw_1_15 kw_8_148) rfl rfl rfl (by decide +kernel) ⟨Nat.le_of_ble_eq_true rfl, Nat.le_of_ble_eq_true rfl⟩) ⟨fun a U g mk q => ⟨q.1, q.2.1, q.2.2.1, va_K.moved (u := U) (U := U.calling g mk a) (Vm.Alike.refl U.vm) q.2.2.2⟩, va_recv hK hP (ci := 12) (q0 := 0) rfl rfl, fun U hU hW => ⟨rfl, by rw [hU], by rw [hU]; exact hP, va_K.moved hW.alike hK⟩⟩ rfl rfl hl.1 rfl (lv_room (Nat.le_of_ble_eq_true rfl)) dX12_leave_70 ⟨Nat.le_of_ble_eq_true rfl, Nat.le_of_ble_eq_true rfl⟩) hS (fun q _ h9 => aM_up hS q h9) (aM_up hS) (fun r_26 u t H1 locs ht _ hw hB _ hk1 hS => ?_)
          obtain ⟨fv_27, wd_28, ar_29⟩ := u
          obtain ⟨hF_fv_27, hA_ar_29, fr_30, fa_31, -⟩ := hw
          have hP : va_P (dC, dI) vwCl (wsM h ad cA fv_27 wd_28 ar_29) H1 := by have h9 := hB.1; rw [ht] at h9; exact h9
          have fr_30 : fM [66] fv_17 fv_27 := fr_30
          have fa_31 : fA [64, 65] ar_19 ar_29 := fa_31
          generalize H1 = H at hP hS ⊢
          refine lv_if_ne (tgt := 77) hx hb dX12_leave_73 (by decide) (fun c_32 => ?_) (fun c_32 => ?_)
          · skip
            refine lv_aload_n hx hb dX12_leave_77 rfl (lv_at hl 1 rfl) ?_
            refine lv_iload_n hx hb dX12_leave_78 rfl (lv_at hl 2 rfl) ?_
            refine lv_iconst (v := 5) hx hb dX12_leave_79 (by decide) ?_
            refine lv_iconst (v := 0) hx hb dX12_leave_80 (by decide) ?_
            refine lv_aload_n hx hb dX12_leave_81 rfl (lv_at hl 1 rfl) ?_
            refine gM_78 hx hb htg hown hK hP dX12_leave_82 ?_
            refine lv_iload_n hx hb dX12_leave_85 rfl (lv_at hl 0 rfl) ?_
            refine lM_78 hx hb hK hP (iv_in i_2 (by decide) (by decide)) dX12_leave_86 (fun v_33 ev_33 => ?_)
            obtain rfl : v_25 = v_33 := ev_25.trans ((congrFun ((fA_call (fA_rf [64, 65] _) fa_31 (by decide)) 78 rfl) _).symm.trans ev_33.symm)
            refine va_calli (va_runV (As := [.int kk, .int 5, .int 0, .int v_25]) (rest := []) ⟨hx, hb, hml, hown, hts⟩ (m_tells l dC dI H.size h ad cA hd fv_27 wd_28 ar_29 hF_fv_27 hA_ar_29 kk 5 0 v_25 h_kk (vM_fr hp_vM (fM_call (fM_call (fM_rf [8, 66] _) fr_20 (by decide)) fr_30 (by decide)) (fA_call (fA_call (fA_put (fA_rf [4, 64, 65, 80] _) ear_3 (by decide)) fa_21 (by decide)) fa_31 (by decide)) rfl rfl rfl rfl rfl)) (cwV 4 hts (gV kw_8_145 kw_8_147 kw_p_79 kw_1_15 kw_8_148) rfl rfl rfl (by decide +kernel) ⟨Nat.le_of_ble_eq_true rfl, Nat.le_of_ble_eq_true rfl⟩) ⟨fun a U g mk q => ⟨q.1, q.2.1, q.2.2.1, va_K.moved (u := U) (U := U.calling g mk a) (Vm.Alike.refl U.vm) q.2.2.2⟩, va_recv hK hP (ci := 12) (q0 := 0) rfl rfl, fun U hU hW => ⟨rfl, by rw [hU], by rw [hU]; exact hP, va_K.moved hW.alike hK⟩⟩ rfl rfl hl.1 rfl (lv_room (Nat.le_of_ble_eq_true rfl)) dX12_leave_87 ⟨Nat.le_of_ble_eq_true rfl, Nat.le_of_ble_eq_true rfl⟩) hS (fun q _ h9 => aM_up hS q h9) (aM_up hS) (fun r_34 u t H1 locs ht _ hw hB _ hk1 hS => ?_)
            obtain ⟨fv_35, wd_36, ar_37⟩ := u
            obtain ⟨hF_fv_35, hA_ar_37, fr_38, fa_39, -⟩ := hw
            have hP : va_P (dC, dI) vwCl (wsM h ad cA fv_35 wd_36 ar_37) H1 := by have h9 := hB.1; rw [ht] at h9; exact h9
            have fr_38 : fM [66] fv_27 fv_35 := fr_38
            have fa_39 : fA [64, 65] ar_29 ar_37 := fa_39
            generalize H1 = H at hP hS ⊢
            refine lv_istore_n (lv' := [(3, .int r_34), (2, .int v_1), (0, .ref h), (1, .int kk)]) hx hb dX12_leave_90 rfl hl (by decide) rfl (fun ls hl => ?_)
            refine lv_iload_n hx hb dX12_leave_91 rfl (lv_at hl 0 rfl) ?_
            refine lv_aload_n hx hb dX12_leave_92 rfl (lv_at hl 2 rfl) ?_
            refine gM_36 hx hb htg hown hK hP dX12_leave_93 ?_
            refine my_ti (y := fv 36) ((fr_38 36 rfl).trans ((fr_30 36 rfl).trans ((fr_20 36 rfl)))) ?_
            refine lv_icmp_le (tgt := 100) hx hb dX12_leave_96 (by decide) (fun c_40 => ?_) (fun c_40 => ?_)
            · skip
              refine lv_aload_n hx hb dX12_leave_100 rfl (lv_at hl 2 rfl) ?_
              refine lv_dup hx hb dX12_leave_101 rfl ?_
              refine gM_36 hx hb htg hown hK hP dX12_leave_102 ?_
              refine my_ti (y := fv 36) ((fr_38 36 rfl).trans ((fr_30 36 rfl).trans ((fr_20 36 rfl)))) ?_
              refine lv_iload_n hx hb dX12_leave_105 rfl (lv_at hl 0 rfl) ?_
              refine lv_isub hx hb dX12_leave_106 ?_
              refine lv_topi (fun v_41 ev_41 => ?_)
              refine pM_36 hx hb htg hown hK hP hS hd dX12_leave_107 (fun H locs fv_42 efv_42 hP hS => ?_)
              have hF_fv_42 : rF fv_42 := rF_put hF_fv_35 efv_42 (iv_any v_41)
              refine lv_aload_n hx hb dX12_leave_110 rfl (lv_at hl 2 rfl) ?_
              refine lv_iload_n hx hb dX12_leave_111 rfl (lv_at hl 3 rfl) ?_
              refine lv_iconst (v := 2) hx hb dX12_leave_112 (by decide) ?_
              refine lv_iconst (v := 0) hx hb dX12_leave_113 (by decide) ?_
              refine lv_aload_n hx hb dX12_leave_114 rfl (lv_at hl 2 rfl) ?_
              refine gM_78 hx hb htg hown hK hP dX12_leave_115 ?_
              refine lv_iload_n hx hb dX12_leave_118 rfl (lv_at hl 1 rfl) ?_
              refine lM_78 hx hb hK hP (iv_in i_2 (by decide) (by decide)) dX12_leave_119 (fun v_43 ev_43 => ?_)
              obtain rfl : v_25 = v_43 := ev_25.trans ((congrFun ((fA_call (fA_call (fA_rf [64, 65] _) fa_31 (by decide)) fa_39 (by decide)) 78 rfl) _).symm.trans ev_43.symm)
              refine va_calli (va_runV (As := [.int kk, .int 2, .int 0, .int v_25]) (rest := []) ⟨hx, hb, hml, hown, hts⟩ (m_tells l dC dI H.size h ad cA hd fv_42 wd_36 ar_37 hF_fv_42 hA_ar_37 kk 2 0 v_25 h_kk (vM_fr hp_vM (fM_put (fM_call (fM_call (fM_call (fM_rf [8, 36, 66] _) fr_20 (by decide)) fr_30 (by decide)) fr_38 (by decide)) efv_42 (by decide)) (fA_call (fA_call (fA_call (fA_put (fA_rf [4, 64, 65, 80] _) ear_3 (by decide)) fa_21 (by decide)) fa_31 (by decide)) fa_39 (by decide)) rfl rfl rfl rfl rfl)) (cwV 4 hts (gV kw_8_145 kw_8_147 kw_p_79 kw_1_15 kw_8_148) rfl rfl rfl (by decide +kernel) ⟨Nat.le_of_ble_eq_true rfl, Nat.le_of_ble_eq_true rfl⟩) ⟨fun a U g mk q => ⟨q.1, q.2.1, q.2.2.1, va_K.moved (u := U) (U := U.calling g mk a) (Vm.Alike.refl U.vm) q.2.2.2⟩, va_recv hK hP (ci := 12) (q0 := 0) rfl rfl, fun U hU hW => ⟨rfl, by rw [hU], by rw [hU]; exact hP, va_K.moved hW.alike hK⟩⟩ rfl rfl hl.1 rfl (lv_room (Nat.le_of_ble_eq_true rfl)) dX12_leave_120 ⟨Nat.le_of_ble_eq_true rfl, Nat.le_of_ble_eq_true rfl⟩) hS (fun q _ h9 => aM_up hS q h9) (aM_up hS) (fun r_44 u t H1 locs ht _ hw hB _ hk1 hS => ?_)
              obtain ⟨fv_45, wd_46, ar_47⟩ := u
              obtain ⟨hF_fv_45, hA_ar_47, fr_48, fa_49, -⟩ := hw
              have hP : va_P (dC, dI) vwCl (wsM h ad cA fv_45 wd_46 ar_47) H1 := by have h9 := hB.1; rw [ht] at h9; exact h9
              have fr_48 : fM [66] fv_42 fv_45 := fr_48
              have fa_49 : fA [64, 65] ar_37 ar_47 := fa_49
              generalize H1 = H at hP hS ⊢
              refine lv_istore (lv' := [(4, .int r_44), (3, .int r_34), (2, .int v_1), (0, .ref h), (1, .int kk)]) hx hb dX12_leave_123 hl (by decide) rfl (fun ls hl => ?_)
              refine lv_iconst (v := 0) hx hb dX12_leave_125 (by decide) ?_
              refine lv_istore (lv' := [(5, .int 0), (4, .int r_44), (3, .int r_34), (2, .int v_1), (0, .ref h), (1, .int kk)]) hx hb dX12_leave_126 hl (by decide) rfl (fun ls hl => ?_)
              refine lv_iconst (v := 0) hx hb dX12_leave_128 (by decide) ?_
              refine lv_istore (lv' := [(6, .int 0), (5, .int 0), (4, .int r_44), (3, .int r_34), (2, .int v_1), (0, .ref h), (1, .int kk)]) hx hb dX12_leave_129 hl (by decide) rfl (fun ls hl => ?_)
              refine my_cut (P := fun R9 a9 Q9 => ∀ (n_59 : Nat) (x_50 : Int32) (x_51 : Int32) (fv_52 : Nat → Int32) (ar_54 : Nat → Nat → Int32) (H : Heap) (locs : List Loc) (ls : Array Slot), 720 - x_51.toInt < (n_59 : Int) → (0 ≤ x_50.toInt ∧ x_50.toInt ≤ 2147483647) → (0 ≤ x_51.toInt ∧ x_51.toInt ≤ 720) → rF fv_52 → fM [36] fv_45 fv_52 → rA ar_54 → fA [16, 24, 68] ar_47 ar_54 → wt_fm G9 (fv_52 8) (ar_54 4) → sW ar_54 → vM fv_52 ar_54 → va_P (dC, dI) vwCl (wsM h ad cA fv_52 wd_46 ar_54) H → va_S (aM h ad s.heap.size) s.heap H locs → lv_has ls 10 [(0, .ref h), (1, .int kk), (2, .int v_1), (4, .int r_44), (5, .int x_50), (6, .int x_51)] → W p l e R9 s m a9 below meth c H locs 0 0 Q9 (F0 m 131 ls [])) ?_ (fun hj_61 => ?_)
              · intro n_59
                induction n_59 with
                | zero => intro x_50 x_51 fv_52 ar_54 H locs ls fu_60 i_x_50 i_x_51 hF_fv_52 fr_53 hA_ar_54 fa_55 hp_56 hp_57 hp_58; exfalso; omega
                | succ n_59 ih_59 =>
                  intro x_50 x_51 fv_52 ar_54 H locs ls fu_60 i_x_50 i_x_51 hF_fv_52 fr_53 hA_ar_54 fa_55 hp_56 hp_57 hp_58 hP hS hl
                  refine lv_iload hx hb dX12_leave_131 (lv_at hl 5 rfl) ?_
                  refine lv_sipush (v := 719) hx hb dX12_leave_133 (by decide) ?_
                  refine my_cut (P := fun R9 a9 Q9 => ∀  (H : Heap) (locs : List Loc) (ls : Array Slot), va_P (dC, dI) vwCl (wsM h ad cA fv_52 wd_46 ar_54) H → va_S (aM h ad s.heap.size) s.heap H locs → lv_has ls 10 [(0, .ref h), (1, .int kk), (2, .int v_1), (5, .int x_50)] → W p l e R9 s m a9 below meth c H locs 0 0 Q9 (F0 m 302 ls [])) ?_ (fun hj_146 => ?_)
                  · intro  H locs ls  hP hS hl
                    refine lv_iconst (v := 0) hx hb dX12_leave_302 (by decide) ?_
                    refine lv_istore (lv' := [(6, .int 0), (0, .ref h), (1, .int kk), (2, .int v_1), (5, .int x_50)]) hx hb dX12_leave_303 hl (by decide) rfl (fun ls hl => ?_)
                    refine lv_aload_n hx hb dX12_leave_305 rfl (lv_at hl 1 rfl) ?_
                    refine lv_iload_n hx hb dX12_leave_306 rfl (lv_at hl 2 rfl) ?_
                    refine lv_iconst (v := 1) hx hb dX12_leave_307 (by decide) ?_
                    refine lv_iload hx hb dX12_leave_308 (lv_at hl 4 rfl) ?_
                    refine lv_aload_n hx hb dX12_leave_310 rfl (lv_at hl 1 rfl) ?_
                    refine gM_78 hx hb htg hown hK hP dX12_leave_311 ?_
                    refine lv_iload_n hx hb dX12_leave_314 rfl (lv_at hl 3 rfl) ?_
                    refine lM_78 hx hb hK hP (iv_in i_2 (by decide) (by decide)) dX12_leave_315 (fun v_147 ev_147 => ?_)
                    obtain rfl : v_25 = v_147 := ev_25.trans ((congrFun ((fA_call (fA_call (fA_call (fA_call (fA_rf [16, 24, 64, 65, 68] _) fa_31 (by decide)) fa_39 (by decide)) fa_49 (by decide)) fa_55 (by decide)) 78 rfl) _).symm.trans ev_147.symm)
                    refine va_calli (va_runV (As := [.int kk, .int 1, .int x_50, .int v_25]) (rest := []) ⟨hx, hb, hml, hown, hts⟩ (m_tells l dC dI H.size h ad cA hd fv_52 wd_46 ar_54 hF_fv_52 hA_ar_54 kk 1 x_50 v_25 h_kk hp_58) (cwV 4 hts (gV kw_8_145 kw_8_147 kw_p_79 kw_1_15 kw_8_148) rfl rfl rfl (by decide +kernel) ⟨Nat.le_of_ble_eq_true rfl, Nat.le_of_ble_eq_true rfl⟩) ⟨fun a U g mk q => ⟨q.1, q.2.1, q.2.2.1, va_K.moved (u := U) (U := U.calling g mk a) (Vm.Alike.refl U.vm) q.2.2.2⟩, va_recv hK hP (ci := 12) (q0 := 0) rfl rfl, fun U hU hW => ⟨rfl, by rw [hU], by rw [hU]; exact hP, va_K.moved hW.alike hK⟩⟩ rfl rfl hl.1 rfl (lv_room (Nat.le_of_ble_eq_true rfl)) dX12_leave_316 ⟨Nat.le_of_ble_eq_true rfl, Nat.le_of_ble_eq_true rfl⟩) hS (fun q _ h9 => aM_up hS q h9) (aM_up hS) (fun r_148 u t H1 locs ht _ hw hB _ hk1 hS => ?_)
                    obtain ⟨fv_149, wd_150, ar_151⟩ := u
                    obtain ⟨hF_fv_149, hA_ar_151, fr_152, fa_153, -⟩ := hw
                    have hP : va_P (dC, dI) vwCl (wsM h ad cA fv_149 wd_150 ar_151) H1 := by have h9 := hB.1; rw [ht] at h9; exact h9
                    have fr_152 : fM [66] fv_52 fv_149 := fr_152
                    have fa_153 : fA [64, 65] ar_54 ar_151 := fa_153
                    generalize H1 = H at hP hS ⊢
                    refine lv_iconst (v := 1) hx hb dX12_leave_319 (by decide) ?_
                    refine lv_icmp_ne (tgt := 496) hx hb dX12_leave_320 (by decide) (fun c_154 => ?_) (fun c_154 => ?_)
                    · skip
                      refine lv_aload_n hx hb dX12_leave_496 rfl (lv_at hl 1 rfl) ?_
                      refine gM_80 hx hb htg hown hK hP dX12_leave_497 ?_
                      refine lv_iload_n hx hb dX12_leave_500 rfl (lv_at hl 2 rfl) ?_
                      refine lv_iload hx hb dX12_leave_501 (lv_at hl 4 rfl) ?_
                      refine sM_80 hx hb hK hP hS hd (iv_in h_kk (by decide) (by decide)) dX12_leave_503 (fun H locs ar_155 ear_155 hP hS => ?_)
                      have hA_ar_155 : rA ar_155 := rA_put hA_ar_151 ear_155 (iv_any _)
                      refine lv_aload_n hx hb dX12_leave_504 rfl (lv_at hl 1 rfl) ?_
                      refine gM_76 hx hb htg hown hK hP dX12_leave_505 ?_
                      refine lv_iload_n hx hb dX12_leave_508 rfl (lv_at hl 3 rfl) ?_
                      refine lv_aload_n hx hb dX12_leave_509 rfl (lv_at hl 1 rfl) ?_
                      refine gM_27 hx hb htg hown hK hP dX12_leave_510 ?_
                      refine lv_iload_n hx hb dX12_leave_513 rfl (lv_at hl 2 rfl) ?_
                      refine lM_27 hx hb hK hP (iv_in h_kk (by decide) (by decide)) dX12_leave_514 (fun v_156 ev_156 => ?_)
                      have i_157 : 0 ≤ v_156.toInt ∧ v_156.toInt ≤ 7 := ev_156 ▸ hA_ar_155 27 _
                      refine sM_76 hx hb hK hP hS hd (iv_in i_2 (by decide) (by decide)) dX12_leave_515 (fun H locs ar_158 ear_158 hP hS => ?_)
                      have hA_ar_158 : rA ar_158 := rA_put hA_ar_155 ear_158 (iv_any _)
                      refine lv_aload_n hx hb dX12_leave_516 rfl (lv_at hl 1 rfl) ?_
                      refine gM_77 hx hb htg hown hK hP dX12_leave_517 ?_
                      refine lv_iload_n hx hb dX12_leave_520 rfl (lv_at hl 3 rfl) ?_
                      refine lv_aload_n hx hb dX12_leave_521 rfl (lv_at hl 1 rfl) ?_
                      refine gM_85 hx hb htg hown hK hP dX12_leave_522 ?_
                      refine my_ti (y := fv 85) ((fr_152 85 rfl).trans ((fr_53 85 rfl).trans ((fr_48 85 rfl).trans ((congrFun efv_42 85).trans ((fr_38 85 rfl).trans ((fr_30 85 rfl).trans ((fr_20 85 rfl)))))))) ?_
                      have i_159 : 0 ≤ (fv 85).toInt ∧ (fv 85).toInt ≤ 840 := hF_fv 85
                      refine lv_iload hx hb dX12_leave_525 (lv_at hl 0 rfl) ?_
                      refine lv_iadd hx hb dX12_leave_527 ?_
                      refine lv_topi (fun v_160 ev_160 => ?_)
                      have t_161 : v_160.toInt = (fv 85).toInt + 0 ∧ 0 ≤ v_160.toInt ∧ v_160.toInt ≤ 840 := iv_addc ev_160 i_159 (by decide) (by decide) (by decide)
                      refine lv_aload_n hx hb dX12_leave_528 rfl (lv_at hl 1 rfl) ?_
                      refine lv_iload_n hx hb dX12_leave_529 rfl (lv_at hl 2 rfl) ?_
                      refine va_calli (va_runV (As := [.int kk]) (rest := [.int v_160, .int v_1, .ref (ad 77)]) ⟨hx, hb, hml, hown, hts⟩ (m_drive l dC dI H.size h ad cA hd fv_149 wd_150 ar_158 hF_fv_149 hA_ar_158 G9 kk h_kk (mF_fr hp_56 (fM_call (fM_rf [66] _) fr_152 (by decide)) (fA_put (fA_put (fA_call (fA_rf [64, 65, 76, 80] _) fa_153 (by decide)) ear_155 (by decide)) ear_158 (by decide)) rfl rfl)) (cwV 1 hts (gV kw_8_204 kw_8_206 kw_p_91 kw_1_15 kw_8_207) rfl rfl rfl (by decide +kernel) ⟨Nat.le_of_ble_eq_true rfl, Nat.le_of_ble_eq_true rfl⟩) ⟨fun a U g mk q => ⟨q.1, q.2.1, q.2.2.1, va_K.moved (u := U) (U := U.calling g mk a) (Vm.Alike.refl U.vm) q.2.2.2⟩, va_recv hK hP (ci := 12) (q0 := 0) rfl rfl, fun U hU hW => ⟨rfl, by rw [hU], by rw [hU]; exact hP, va_K.moved hW.alike hK⟩⟩ rfl rfl hl.1 rfl (lv_room (Nat.le_of_ble_eq_true rfl)) dX12_leave_530 ⟨Nat.le_of_ble_eq_true rfl, Nat.le_of_ble_eq_true rfl⟩) hS (fun q _ h9 => aM_up hS q h9) (aM_up hS) (fun r_163 u t H1 locs ht _ hw hB _ hk1 hS => ?_)
                      obtain ⟨fv_165, wd_166, ar_167⟩ := u
                      obtain ⟨hF_fv_165, hA_ar_167, fr_168, fa_169, p_164, -⟩ := hw
                      have hP : va_P (dC, dI) vwCl (wsM h ad cA fv_165 wd_166 ar_167) H1 := by have h9 := hB.1; rw [ht] at h9; exact h9
                      have fr_168 : fM [8] fv_149 fv_165 := fr_168
                      have fa_169 : fA [4] ar_158 ar_167 := fa_169
                      have p_164 : wt_fm G9 (fv_165 8) (ar_167 4) := p_164
                      generalize H1 = H at hP hS ⊢
                      refine lv_iadd hx hb dX12_leave_533 ?_
                      refine lv_topi (fun v_170 ev_170 => ?_)
                      refine sM_77 hx hb hK hP hS hd (iv_in i_2 (by decide) (by decide)) dX12_leave_534 (fun H locs ar_171 ear_171 hP hS => ?_)
                      have hA_ar_171 : rA ar_171 := rA_put hA_ar_167 ear_171 (iv_any _)
                      refine lv_iconst (v := 0) hx hb dX12_leave_535 (by decide) ?_
                      refine lv_istore (lv' := [(7, .int 0), (6, .int 0), (0, .ref h), (1, .int kk), (2, .int v_1), (5, .int x_50)]) hx hb dX12_leave_536 hl (by decide) rfl (fun ls hl => ?_)
                      refine my_cut (P := fun R9 a9 Q9 => ∀ (n_178 : Nat) (x_172 : Int32) (ar_173 : Nat → Nat → Int32) (H : Heap) (locs : List Loc) (ls : Array Slot), 40 - x_172.toInt < (n_178 : Int) → (0 ≤ x_172.toInt ∧ x_172.toInt ≤ 40) → rA ar_173 → fA [75] ar_171 ar_173 → wt_fm G9 (fv_165 8) (ar_173 4) → sW ar_173 → vM fv_165 ar_173 → va_P (dC, dI) vwCl (wsM h ad cA fv_165 wd_166 ar_173) H → va_S (aM h ad s.heap.size) s.heap H locs → lv_has ls 10 [(0, .ref h), (1, .int kk), (7, .int x_172)] → W p l e R9 s m a9 below meth c H locs 0 0 Q9 (F0 m 538 ls [])) ?_ (fun hj_180 => ?_)
                      · intro n_178
                        induction n_178 with
                        | zero => intro x_172 ar_173 H locs ls fu_179 i_x_172 hA_ar_173 fa_174 hp_175 hp_176 hp_177; exfalso; omega
                        | succ n_178 ih_178 =>
                          intro x_172 ar_173 H locs ls fu_179 i_x_172 hA_ar_173 fa_174 hp_175 hp_176 hp_177 hP hS hl
                          refine lv_iload hx hb dX12_leave_538 (lv_at hl 2 rfl) ?_
                          refine lv_aload_n hx hb dX12_leave_540 rfl (lv_at hl 0 rfl) ?_
                          refine gM_32 hx hb htg hown hK hP dX12_leave_541 ?_
                          refine my_ti (y := fv 32) ((fr_168 32 rfl).trans ((fr_152 32 rfl).trans ((fr_53 32 rfl).trans ((fr_48 32 rfl).trans ((congrFun efv_42 32).trans ((fr_38 32 rfl).trans ((fr_30 32 rfl).trans ((fr_20 32 rfl))))))))) ?_
                          have i_181 : 0 ≤ (fv 32).toInt ∧ (fv 32).toInt ≤ 40 := hF_fv 32
                          refine lv_icmp_ge (tgt := 586) hx hb dX12_leave_544 (by decide) (fun c_182 => ?_) (fun c_182 => ?_)
                          · skip
                            exact W.vret hx hb hr (fun t ht hW => ⟨⟨(fv_165, wd_166, ar_173), rfl, ⟨hF_fv_165, hA_ar_173, (fM_call (fM_call (fM_call (fM_call (fM_put (fM_call (fM_call (fM_call (fM_rf [8, 36, 66] _) fr_20 (by decide)) fr_30 (by decide)) fr_38 (by decide)) efv_42 (by decide)) fr_48 (by decide)) fr_53 (by decide)) fr_152 (by decide)) fr_168 (by decide)), (fA_call (fA_put (fA_call (fA_put (fA_put (fA_call (fA_call (fA_call (fA_call (fA_call (fA_call (fA_put (fA_rf [4, 16, 24, 64, 65, 68, 75, 76, 77, 78, 79, 80] _) ear_3 (by decide)) fa_21 (by decide)) fa_31 (by decide)) fa_39 (by decide)) fa_49 (by decide)) fa_55 (by decide)) fa_153 (by decide)) ear_155 (by decide)) ear_158 (by decide)) fa_169 (by decide)) ear_171 (by decide)) fa_174 (by decide)), hp_176, hp_175, trivial⟩, ⟨by rw [ht]; exact hP, va_K.moved hW.alike hK⟩⟩, hS.F ht⟩) hS.2.2 dX12_leave_586
                          · skip
                            have i_183 : 0 ≤ x_172.toInt ∧ x_172.toInt ≤ 39 := iv_lt1 i_x_172 i_181 (Int32.not_le.mp c_182)
                            have i_184 : 1 ≤ (fv 32).toInt ∧ (fv 32).toInt ≤ 40 := iv_lt2 i_x_172 i_181 (Int32.not_le.mp c_182)
                            refine lv_aload_n hx hb dX12_leave_547 rfl (lv_at hl 0 rfl) ?_
                            refine gM_68 hx hb htg hown hK hP dX12_leave_548 ?_
                            refine lv_iload hx hb dX12_leave_551 (lv_at hl 2 rfl) ?_
                            refine lM_68 hx hb hK hP (iv_in i_183 (by decide) (by decide)) dX12_leave_553 (fun v_185 ev_185 => ?_)
                            refine lv_iconst (v := 3) hx hb dX12_leave_554 (by decide) ?_
                            refine my_cut (P := fun R9 a9 Q9 => ∀ (ar_195 : Nat → Nat → Int32) (H : Heap) (locs : List Loc) (ls : Array Slot), rA ar_195 → fA [75] ar_173 ar_195 → wt_fm G9 (fv_165 8) (ar_195 4) → sW ar_195 → vM fv_165 ar_195 → va_P (dC, dI) vwCl (wsM h ad cA fv_165 wd_166 ar_195) H → va_S (aM h ad s.heap.size) s.heap H locs → lv_has ls 10 [(0, .ref h), (1, .int kk), (7, .int x_172)] → W p l e R9 s m a9 below meth c H locs 0 0 Q9 (F0 m 580 ls [])) ?_ (fun hj_200 => ?_)
                            · intro ar_195 H locs ls hA_ar_195 fa_196 hp_197 hp_198 hp_199 hP hS hl
                              obtain ⟨v_201, ev_201⟩ : ∃ z : Int32, z = x_172 + 1 := ⟨_, rfl⟩
                              refine lv_iinc (v := v_201) (lv' := [(7, .int v_201), (0, .ref h), (1, .int kk)]) hx hb dX12_leave_580 hl (k := 2) rfl (by rw [ev_201]; rfl) (by decide) rfl (fun ls hl => ?_)
                              have t_202 : v_201.toInt = x_172.toInt + 1 ∧ 1 ≤ v_201.toInt ∧ v_201.toInt ≤ 40 := iv_addc ev_201 i_183 (by decide) (by decide) (by decide)
                              refine lv_goto (tgt := 538) hx hb dX12_leave_583 (by decide) ?_
                              exact ih_178 v_201 ar_195 _ _ ls (by omega) (iv_w t_202.2 (by decide) (by decide)) hA_ar_195 (fA_call (fA_call (fA_rf [75] _) fa_174 (by decide)) fa_196 (by decide)) hp_197 hp_198 hp_199 hP hS (lv_sub hl [1, 2, 0] rfl)
                            · skip
                              refine lv_icmp_ne (tgt := 580) hx hb dX12_leave_555 (by decide) (fun c_186 => ?_) (fun c_186 => ?_)
                              · skip
                                exact hj_200 ar_173 _ _ ls hA_ar_173 (fA_rf [75] _) hp_175 hp_176 hp_177 hP hS (lv_sub hl [0, 1, 2] rfl)
                              · skip
                                have i_187 : 3 ≤ v_185.toInt ∧ v_185.toInt ≤ 3 := iv_eq1 (⟨by decide, by decide⟩ : (3 : Int) ≤ (3 : Int32).toInt ∧ (3 : Int32).toInt ≤ 3) c_186
                                refine lv_aload_n hx hb dX12_leave_558 rfl (lv_at hl 0 rfl) ?_
                                refine gM_71 hx hb htg hown hK hP dX12_leave_559 ?_
                                refine lv_iload hx hb dX12_leave_562 (lv_at hl 2 rfl) ?_
                                refine lM_71 hx hb hK hP (iv_in i_183 (by decide) (by decide)) dX12_leave_564 (fun v_188 ev_188 => ?_)
                                have i_189 : (-1) ≤ v_188.toInt ∧ v_188.toInt ≤ 79 := ev_188 ▸ hA_ar_173 71 _
                                have i_190 : 0 ≤ v_188.toInt ∧ v_188.toInt ≤ 79 := ⟨by have h9 := hp_176 x_172.toNatClampNeg; rw [← ev_185, ← ev_188] at h9; exact h9 (Int.le_trans (by decide) (i_187).1) (Int.le_trans (i_187).2 (by decide)), (i_189).2⟩
                                refine lv_iload_n hx hb dX12_leave_565 rfl (lv_at hl 1 rfl) ?_
                                refine lv_icmp_ne (tgt := 580) hx hb dX12_leave_566 (by decide) (fun c_191 => ?_) (fun c_191 => ?_)
                                · skip
                                  exact hj_200 ar_173 _ _ ls hA_ar_173 (fA_rf [75] _) hp_175 hp_176 hp_177 hP hS (lv_sub hl [0, 1, 2] rfl)
                                · skip
                                  refine lv_aload_n hx hb dX12_leave_569 rfl (lv_at hl 0 rfl) ?_
                                  refine gM_75 hx hb htg hown hK hP dX12_leave_570 ?_
                                  refine lv_iload hx hb dX12_leave_573 (lv_at hl 2 rfl) ?_
                                  refine lv_dup2_11 hx hb dX12_leave_575 rfl rfl ?_
                                  refine lM_75 hx hb hK hP (iv_in i_183 (by decide) (by decide)) dX12_leave_576 (fun v_192 ev_192 => ?_)
                                  refine lv_iconst (v := 1) hx hb dX12_leave_577 (by decide) ?_
                                  refine lv_iadd hx hb dX12_leave_578 ?_
                                  refine lv_topi (fun v_193 ev_193 => ?_)
                                  refine sM_75 hx hb hK hP hS hd (iv_in i_183 (by decide) (by decide)) dX12_leave_579 (fun H locs ar_194 ear_194 hP hS => ?_)
                                  have hA_ar_194 : rA ar_194 := rA_put hA_ar_173 ear_194 (iv_any _)
                                  exact hj_200 ar_194 _ _ ls hA_ar_194 (fA_put (fA_rf [75] _) ear_194 (by decide)) (mF_fr hp_175 (fM_rf [] _) (fA_put (fA_rf [75] _) ear_194 (by decide)) rfl rfl) (sW_fr hp_176 (fA_put (fA_rf [75] _) ear_194 (by decide)) rfl rfl) (vM_fr hp_177 (fM_rf [] _) (fA_put (fA_rf [75] _) ear_194 (by decide)) rfl rfl rfl rfl rfl) hP hS (lv_sub hl [0, 1, 2] rfl)
                      · skip
                        have z_204 : (0 : Int32).toInt = 0 := by decide
                        exact hj_180 41 0 ar_171 _ _ ls (by first | decide | omega) (iv_w (⟨by decide, by decide⟩ : (0 : Int) ≤ (0 : Int32).toInt ∧ (0 : Int32).toInt ≤ 0) (by decide) (by decide)) hA_ar_171 (fA_rf [75] _) (mF_fr p_164 (fM_rf [] _) (fA_put (fA_rf [77] _) ear_171 (by decide)) rfl rfl) (sW_fr hp_57 (fA_put (fA_call (fA_put (fA_put (fA_call (fA_rf [4, 64, 65, 76, 77, 80] _) fa_153 (by decide)) ear_155 (by decide)) ear_158 (by decide)) fa_169 (by decide)) ear_171 (by decide)) rfl rfl) (vM_fr hp_58 (fM_call (fM_call (fM_rf [8, 66] _) fr_152 (by decide)) fr_168 (by decide)) (fA_put (fA_call (fA_put (fA_put (fA_call (fA_rf [4, 64, 65, 76, 77, 80] _) fa_153 (by decide)) ear_155 (by decide)) ear_158 (by decide)) fa_169 (by decide)) ear_171 (by decide)) rfl rfl rfl rfl rfl) hP hS (lv_sub hl [2, 3, 0] rfl)
                    · skip
                      have i_205 : 1 ≤ r_148.toInt ∧ r_148.toInt ≤ 1 := iv_eq1 (⟨by decide, by decide⟩ : (1 : Int) ≤ (1 : Int32).toInt ∧ (1 : Int32).toInt ≤ 1) c_154
                      refine lv_aload_n hx hb dX12_leave_323 rfl (lv_at hl 1 rfl) ?_
                      refine lv_iload_n hx hb dX12_leave_324 rfl (lv_at hl 2 rfl) ?_
                      refine lv_iconst (v := 4) hx hb dX12_leave_325 (by decide) ?_
                      refine lv_iload hx hb dX12_leave_326 (lv_at hl 4 rfl) ?_
                      refine lv_aload_n hx hb dX12_leave_328 rfl (lv_at hl 1 rfl) ?_
                      refine gM_78 hx hb htg hown hK hP dX12_leave_329 ?_
                      refine lv_iload_n hx hb dX12_leave_332 rfl (lv_at hl 3 rfl) ?_
                      refine lM_78 hx hb hK hP (iv_in i_2 (by decide) (by decide)) dX12_leave_333 (fun v_206 ev_206 => ?_)
                      obtain rfl : v_25 = v_206 := ev_25.trans ((congrFun ((fA_call (fA_call (fA_call (fA_call (fA_call (fA_rf [16, 24, 64, 65, 68] _) fa_31 (by decide)) fa_39 (by decide)) fa_49 (by decide)) fa_55 (by decide)) fa_153 (by decide)) 78 rfl) _).symm.trans ev_206.symm)
                      refine va_calli (va_runV (As := [.int kk, .int 4, .int x_50, .int v_25]) (rest := []) ⟨hx, hb, hml, hown, hts⟩ (m_tells l dC dI H.size h ad cA hd fv_149 wd_150 ar_151 hF_fv_149 hA_ar_151 kk 4 x_50 v_25 h_kk (vM_fr hp_58 (fM_call (fM_rf [66] _) fr_152 (by decide)) (fA_call (fA_rf [64, 65] _) fa_153 (by decide)) rfl rfl rfl rfl rfl)) (cwV 4 hts (gV kw_8_145 kw_8_147 kw_p_79 kw_1_15 kw_8_148) rfl rfl rfl (by decide +kernel) ⟨Nat.le_of_ble_eq_true rfl, Nat.le_of_ble_eq_true rfl⟩) ⟨fun a U g mk q => ⟨q.1, q.2.1, q.2.2.1, va_K.moved (u := U) (U := U.calling g mk a) (Vm.Alike.refl U.vm) q.2.2.2⟩, va_recv hK hP (ci := 12) (q0 := 0) rfl rfl, fun U hU hW => ⟨rfl, by rw [hU], by rw [hU]; exact hP, va_K.moved hW.alike hK⟩⟩ rfl rfl hl.1 rfl (lv_room (Nat.le_of_ble_eq_true rfl)) dX12_leave_334 ⟨Nat.le_of_ble_eq_true rfl, Nat.le_of_ble_eq_true rfl⟩) hS (fun q _ h9 => aM_up hS q h9) (aM_up hS) (fun r_207 u t H1 locs ht _ hw hB _ hk1 hS => ?_)
                      obtain ⟨fv_208, wd_209, ar_210⟩ := u
                      obtain ⟨hF_fv_208, hA_ar_210, fr_211, fa_212, -⟩ := hw
                      have hP : va_P (dC, dI) vwCl (wsM h ad cA fv_208 wd_209 ar_210) H1 := by have h9 := hB.1; rw [ht] at h9; exact h9
                      have fr_211 : fM [66] fv_149 fv_208 := fr_211
                      have fa_212 : fA [64, 65] ar_151 ar_210 := fa_212
                      generalize H1 = H at hP hS ⊢
                      refine lv_istore (lv' := [(7, .int r_207), (6, .int 0), (0, .ref h), (1, .int kk), (2, .int v_1), (5, .int x_50)]) hx hb dX12_leave_337 hl (by decide) rfl (fun ls hl => ?_)
                      refine lv_aload_n hx hb dX12_leave_339 rfl (lv_at hl 2 rfl) ?_
                      refine lv_iload_n hx hb dX12_leave_340 rfl (lv_at hl 3 rfl) ?_
                      refine lv_iconst (v := 3) hx hb dX12_leave_341 (by decide) ?_
                      refine lv_iload hx hb dX12_leave_342 (lv_at hl 5 rfl) ?_
                      refine lv_aload_n hx hb dX12_leave_344 rfl (lv_at hl 2 rfl) ?_
                      refine gM_78 hx hb htg hown hK hP dX12_leave_345 ?_
                      refine lv_iload_n hx hb dX12_leave_348 rfl (lv_at hl 4 rfl) ?_
                      refine lM_78 hx hb hK hP (iv_in i_2 (by decide) (by decide)) dX12_leave_349 (fun v_213 ev_213 => ?_)
                      obtain rfl : v_25 = v_213 := ev_25.trans ((congrFun ((fA_call (fA_call (fA_call (fA_call (fA_call (fA_call (fA_rf [16, 24, 64, 65, 68] _) fa_31 (by decide)) fa_39 (by decide)) fa_49 (by decide)) fa_55 (by decide)) fa_153 (by decide)) fa_212 (by decide)) 78 rfl) _).symm.trans ev_213.symm)
                      refine va_calli (va_runV (As := [.int kk, .int 3, .int x_50, .int v_25]) (rest := []) ⟨hx, hb, hml, hown, hts⟩ (m_tells l dC dI H.size h ad cA hd fv_208 wd_209 ar_210 hF_fv_208 hA_ar_210 kk 3 x_50 v_25 h_kk (vM_fr hp_58 (fM_call (fM_call (fM_rf [66] _) fr_152 (by decide)) fr_211 (by decide)) (fA_call (fA_call (fA_rf [64, 65] _) fa_153 (by decide)) fa_212 (by decide)) rfl rfl rfl rfl rfl)) (cwV 4 hts (gV kw_8_145 kw_8_147 kw_p_79 kw_1_15 kw_8_148) rfl rfl rfl (by decide +kernel) ⟨Nat.le_of_ble_eq_true rfl, Nat.le_of_ble_eq_true rfl⟩) ⟨fun a U g mk q => ⟨q.1, q.2.1, q.2.2.1, va_K.moved (u := U) (U := U.calling g mk a) (Vm.Alike.refl U.vm) q.2.2.2⟩, va_recv hK hP (ci := 12) (q0 := 0) rfl rfl, fun U hU hW => ⟨rfl, by rw [hU], by rw [hU]; exact hP, va_K.moved hW.alike hK⟩⟩ rfl rfl hl.1 rfl (lv_room (Nat.le_of_ble_eq_true rfl)) dX12_leave_350 ⟨Nat.le_of_ble_eq_true rfl, Nat.le_of_ble_eq_true rfl⟩) hS (fun q _ h9 => aM_up hS q h9) (aM_up hS) (fun r_214 u t H1 locs ht _ hw hB _ hk1 hS => ?_)
                      obtain ⟨fv_215, wd_216, ar_217⟩ := u
                      obtain ⟨hF_fv_215, hA_ar_217, fr_218, fa_219, -⟩ := hw
                      have hP : va_P (dC, dI) vwCl (wsM h ad cA fv_215 wd_216 ar_217) H1 := by have h9 := hB.1; rw [ht] at h9; exact h9
                      have fr_218 : fM [66] fv_208 fv_215 := fr_218
                      have fa_219 : fA [64, 65] ar_210 ar_217 := fa_219
                      generalize H1 = H at hP hS ⊢
                      refine lv_istore (lv' := [(6, .int r_214), (7, .int r_207), (0, .ref h), (1, .int kk), (2, .int v_1), (5, .int x_50)]) hx hb dX12_leave_353 hl (by decide) rfl (fun ls hl => ?_)
                      refine lv_aload_n hx hb dX12_leave_355 rfl (lv_at hl 2 rfl) ?_
                      refine gM_78 hx hb htg hown hK hP dX12_leave_356 ?_
                      refine lv_iload_n hx hb dX12_leave_359 rfl (lv_at hl 4 rfl) ?_
                      refine lv_dup2_11 hx hb dX12_leave_360 rfl rfl ?_
                      refine lM_78 hx hb hK hP (iv_in i_2 (by decide) (by decide)) dX12_leave_361 (fun v_220 ev_220 => ?_)
                      obtain rfl : v_25 = v_220 := ev_25.trans ((congrFun ((fA_call (fA_call (fA_call (fA_call (fA_call (fA_call (fA_call (fA_rf [16, 24, 64, 65, 68] _) fa_31 (by decide)) fa_39 (by decide)) fa_49 (by decide)) fa_55 (by decide)) fa_153 (by decide)) fa_212 (by decide)) fa_219 (by decide)) 78 rfl) _).symm.trans ev_220.symm)
                      refine lv_iconst (v := 1) hx hb dX12_leave_362 (by decide) ?_
                      refine lv_iadd hx hb dX12_leave_363 ?_
                      refine lv_topi (fun v_221 ev_221 => ?_)
                      refine sM_78 hx hb hK hP hS hd (iv_in i_2 (by decide) (by decide)) dX12_leave_364 (fun H locs ar_222 ear_222 hP hS => ?_)
                      have hA_ar_222 : rA ar_222 := rA_put hA_ar_217 ear_222 (iv_any _)
                      refine lv_aload_n hx hb dX12_leave_365 rfl (lv_at hl 2 rfl) ?_
                      refine gM_20 hx hb htg hown hK hP dX12_leave_366 ?_
                      refine lv_iload_n hx hb dX12_leave_369 rfl (lv_at hl 4 rfl) ?_
                      refine lM_20 hx hb hK hP (iv_in i_2 (by decide) (by decide)) dX12_leave_370 (fun v_223 ev_223 => ?_)
                      refine lv_iconst (v := 2) hx hb dX12_leave_371 (by decide) ?_
                      refine my_cut (P := fun R9 a9 Q9 => ∀ (x_227 : Int32) (H : Heap) (locs : List Loc) (ls : Array Slot), va_P (dC, dI) vwCl (wsM h ad cA fv_215 wd_216 ar_222) H → va_S (aM h ad s.heap.size) s.heap H locs → lv_has ls 10 [(0, .ref h), (1, .int kk), (2, .int v_1), (5, .int x_50), (6, .int r_214), (7, .int r_207)] → W p l e R9 s m a9 below meth c H locs 0 0 Q9 (F0 m 388 ls [.int x_227])) ?_ (fun hj_228 => ?_)
                      · intro x_227 H locs ls  hP hS hl
                        refine lv_iload hx hb dX12_leave_388 (lv_at hl 5 rfl) ?_
                        refine my_cut (P := fun R9 a9 Q9 => ∀ (x_232 : Int32) (H : Heap) (locs : List Loc) (ls : Array Slot), (0 ≤ x_232.toInt ∧ x_232.toInt ≤ 1) → va_P (dC, dI) vwCl (wsM h ad cA fv_215 wd_216 ar_222) H → va_S (aM h ad s.heap.size) s.heap H locs → lv_has ls 10 [(0, .ref h), (1, .int kk), (2, .int v_1), (5, .int x_50), (6, .int r_214), (7, .int r_207)] → W p l e R9 s m a9 below meth c H locs 0 0 Q9 (F0 m 398 ls [.int x_232])) ?_ (fun hj_233 => ?_)
                        · intro x_232 H locs ls i_x_232 hP hS hl
                          refine lv_istore (lv' := [(8, .int x_232), (0, .ref h), (1, .int kk), (2, .int v_1), (5, .int x_50), (6, .int r_214), (7, .int r_207)]) hx hb dX12_leave_398 hl (by decide) rfl (fun ls hl => ?_)
                          refine lv_iload hx hb dX12_leave_400 (lv_at hl 0 rfl) ?_
                          refine lv_if_ne (tgt := 461) hx hb dX12_leave_402 (by decide) (fun c_234 => ?_) (fun c_234 => ?_)
                          · skip
                            have i_235 : 1 ≤ x_232.toInt ∧ x_232.toInt ≤ 1 := iv_nel i_x_232 (by decide) c_234
                            refine lv_aload_n hx hb dX12_leave_461 rfl (lv_at hl 1 rfl) ?_
                            refine gM_20 hx hb htg hown hK hP dX12_leave_462 ?_
                            refine lv_iload_n hx hb dX12_leave_465 rfl (lv_at hl 3 rfl) ?_
                            refine lM_20 hx hb hK hP (iv_in i_2 (by decide) (by decide)) dX12_leave_466 (fun v_236 ev_236 => ?_)
                            obtain rfl : v_223 = v_236 := ev_223.trans ev_236.symm
                            refine lv_iconst (v := 2) hx hb dX12_leave_467 (by decide) ?_
                            refine my_cut (P := fun R9 a9 Q9 => ∀ (fv_244 : Nat → Int32) (ar_246 : Nat → Nat → Int32) (H : Heap) (locs : List Loc) (ls : Array Slot), rF fv_244 → fM [36] fv_215 fv_244 → rA ar_246 → fA [24] ar_222 ar_246 → wt_fm G9 (fv_244 8) (ar_246 4) → sW ar_246 → vM fv_244 ar_246 → va_P (dC, dI) vwCl (wsM h ad cA fv_244 wd_216 ar_246) H → va_S (aM h ad s.heap.size) s.heap H locs → lv_has ls 10 [(0, .ref h), (1, .int kk), (2, .int v_1), (5, .int x_50), (6, .int r_214)] → W p l e R9 s m a9 below meth c H locs 0 0 Q9 (F0 m 496 ls [])) ?_ (fun hj_251 => ?_)
                            · intro fv_244 ar_246 H locs ls hF_fv_244 fr_245 hA_ar_246 fa_247 hp_248 hp_249 hp_250 hP hS hl
                              refine lv_aload_n hx hb dX12_leave_496 rfl (lv_at hl 0 rfl) ?_
                              refine gM_80 hx hb htg hown hK hP dX12_leave_497 ?_
                              refine lv_iload_n hx hb dX12_leave_500 rfl (lv_at hl 1 rfl) ?_
                              refine lv_iload hx hb dX12_leave_501 (lv_at hl 3 rfl) ?_
                              refine sM_80 hx hb hK hP hS hd (iv_in h_kk (by decide) (by decide)) dX12_leave_503 (fun H locs ar_252 ear_252 hP hS => ?_)
                              have hA_ar_252 : rA ar_252 := rA_put hA_ar_246 ear_252 (iv_any _)
                              refine lv_aload_n hx hb dX12_leave_504 rfl (lv_at hl 0 rfl) ?_
                              refine gM_76 hx hb htg hown hK hP dX12_leave_505 ?_
                              refine lv_iload_n hx hb dX12_leave_508 rfl (lv_at hl 2 rfl) ?_
                              refine lv_aload_n hx hb dX12_leave_509 rfl (lv_at hl 0 rfl) ?_
                              refine gM_27 hx hb htg hown hK hP dX12_leave_510 ?_
                              refine lv_iload_n hx hb dX12_leave_513 rfl (lv_at hl 1 rfl) ?_
                              refine lM_27 hx hb hK hP (iv_in h_kk (by decide) (by decide)) dX12_leave_514 (fun v_253 ev_253 => ?_)
                              have i_254 : 0 ≤ v_253.toInt ∧ v_253.toInt ≤ 7 := ev_253 ▸ hA_ar_252 27 _
                              refine sM_76 hx hb hK hP hS hd (iv_in i_2 (by decide) (by decide)) dX12_leave_515 (fun H locs ar_255 ear_255 hP hS => ?_)
                              have hA_ar_255 : rA ar_255 := rA_put hA_ar_252 ear_255 (iv_any _)
                              refine lv_aload_n hx hb dX12_leave_516 rfl (lv_at hl 0 rfl) ?_
                              refine gM_77 hx hb htg hown hK hP dX12_leave_517 ?_
                              refine lv_iload_n hx hb dX12_leave_520 rfl (lv_at hl 2 rfl) ?_
                              refine lv_aload_n hx hb dX12_leave_521 rfl (lv_at hl 0 rfl) ?_
                              refine gM_85 hx hb htg hown hK hP dX12_leave_522 ?_
                              refine my_ti (y := fv 85) ((fr_245 85 rfl).trans ((fr_218 85 rfl).trans ((fr_211 85 rfl).trans ((fr_152 85 rfl).trans ((fr_53 85 rfl).trans ((fr_48 85 rfl).trans ((congrFun efv_42 85).trans ((fr_38 85 rfl).trans ((fr_30 85 rfl).trans ((fr_20 85 rfl))))))))))) ?_
                              have i_256 : 0 ≤ (fv 85).toInt ∧ (fv 85).toInt ≤ 840 := hF_fv 85
                              refine lv_iload hx hb dX12_leave_525 (lv_at hl 4 rfl) ?_
                              refine lv_iadd hx hb dX12_leave_527 ?_
                              refine lv_topi (fun v_257 ev_257 => ?_)
                              refine lv_aload_n hx hb dX12_leave_528 rfl (lv_at hl 0 rfl) ?_
                              refine lv_iload_n hx hb dX12_leave_529 rfl (lv_at hl 1 rfl) ?_
                              refine va_calli (va_runV (As := [.int kk]) (rest := [.int v_257, .int v_1, .ref (ad 77)]) ⟨hx, hb, hml, hown, hts⟩ (m_drive l dC dI H.size h ad cA hd fv_244 wd_216 ar_255 hF_fv_244 hA_ar_255 G9 kk h_kk (mF_fr hp_248 (fM_rf [] _) (fA_put (fA_put (fA_rf [76, 80] _) ear_252 (by decide)) ear_255 (by decide)) rfl rfl)) (cwV 1 hts (gV kw_8_204 kw_8_206 kw_p_91 kw_1_15 kw_8_207) rfl rfl rfl (by decide +kernel) ⟨Nat.le_of_ble_eq_true rfl, Nat.le_of_ble_eq_true rfl⟩) ⟨fun a U g mk q => ⟨q.1, q.2.1, q.2.2.1, va_K.moved (u := U) (U := U.calling g mk a) (Vm.Alike.refl U.vm) q.2.2.2⟩, va_recv hK hP (ci := 12) (q0 := 0) rfl rfl, fun U hU hW => ⟨rfl, by rw [hU], by rw [hU]; exact hP, va_K.moved hW.alike hK⟩⟩ rfl rfl hl.1 rfl (lv_room (Nat.le_of_ble_eq_true rfl)) dX12_leave_530 ⟨Nat.le_of_ble_eq_true rfl, Nat.le_of_ble_eq_true rfl⟩) hS (fun q _ h9 => aM_up hS q h9) (aM_up hS) (fun r_258 u t H1 locs ht _ hw hB _ hk1 hS => ?_)
                              obtain ⟨fv_260, wd_261, ar_262⟩ := u
                              obtain ⟨hF_fv_260, hA_ar_262, fr_263, fa_264, p_259, -⟩ := hw
                              have hP : va_P (dC, dI) vwCl (wsM h ad cA fv_260 wd_261 ar_262) H1 := by have h9 := hB.1; rw [ht] at h9; exact h9
                              have fr_263 : fM [8] fv_244 fv_260 := fr_263
                              have fa_264 : fA [4] ar_255 ar_262 := fa_264
                              have p_259 : wt_fm G9 (fv_260 8) (ar_262 4) := p_259
                              generalize H1 = H at hP hS ⊢
                              refine lv_iadd hx hb dX12_leave_533 ?_
                              refine lv_topi (fun v_265 ev_265 => ?_)
                              refine sM_77 hx hb hK hP hS hd (iv_in i_2 (by decide) (by decide)) dX12_leave_534 (fun H locs ar_266 ear_266 hP hS => ?_)
                              have hA_ar_266 : rA ar_266 := rA_put hA_ar_262 ear_266 (iv_any _)
                              refine lv_iconst (v := 0) hx hb dX12_leave_535 (by decide) ?_
                              refine lv_istore (lv' := [(7, .int 0), (0, .ref h), (1, .int kk), (2, .int v_1), (5, .int x_50), (6, .int r_214)]) hx hb dX12_leave_536 hl (by decide) rfl (fun ls hl => ?_)
                              refine my_cut (P := fun R9 a9 Q9 => ∀ (n_273 : Nat) (x_267 : Int32) (ar_268 : Nat → Nat → Int32) (H : Heap) (locs : List Loc) (ls : Array Slot), 40 - x_267.toInt < (n_273 : Int) → (0 ≤ x_267.toInt ∧ x_267.toInt ≤ 40) → rA ar_268 → fA [75] ar_266 ar_268 → wt_fm G9 (fv_260 8) (ar_268 4) → sW ar_268 → vM fv_260 ar_268 → va_P (dC, dI) vwCl (wsM h ad cA fv_260 wd_261 ar_268) H → va_S (aM h ad s.heap.size) s.heap H locs → lv_has ls 10 [(0, .ref h), (1, .int kk), (7, .int x_267)] → W p l e R9 s m a9 below meth c H locs 0 0 Q9 (F0 m 538 ls [])) ?_ (fun hj_275 => ?_)
                              · intro n_273
                                induction n_273 with
                                | zero => intro x_267 ar_268 H locs ls fu_274 i_x_267 hA_ar_268 fa_269 hp_270 hp_271 hp_272; exfalso; omega
                                | succ n_273 ih_273 =>
                                  intro x_267 ar_268 H locs ls fu_274 i_x_267 hA_ar_268 fa_269 hp_270 hp_271 hp_272 hP hS hl
                                  refine lv_iload hx hb dX12_leave_538 (lv_at hl 2 rfl) ?_
                                  refine lv_aload_n hx hb dX12_leave_540 rfl (lv_at hl 0 rfl) ?_
                                  refine gM_32 hx hb htg hown hK hP dX12_leave_541 ?_
                                  refine my_ti (y := fv 32) ((fr_263 32 rfl).trans ((fr_245 32 rfl).trans ((fr_218 32 rfl).trans ((fr_211 32 rfl).trans ((fr_152 32 rfl).trans ((fr_53 32 rfl).trans ((fr_48 32 rfl).trans ((congrFun efv_42 32).trans ((fr_38 32 rfl).trans ((fr_30 32 rfl).trans ((fr_20 32 rfl)))))))))))) ?_
                                  have i_276 : 0 ≤ (fv 32).toInt ∧ (fv 32).toInt ≤ 40 := hF_fv 32
                                  refine lv_icmp_ge (tgt := 586) hx hb dX12_leave_544 (by decide) (fun c_277 => ?_) (fun c_277 => ?_)
                                  · skip
                                    exact W.vret hx hb hr (fun t ht hW => ⟨⟨(fv_260, wd_261, ar_268), rfl, ⟨hF_fv_260, hA_ar_268, (fM_call (fM_call (fM_call (fM_call (fM_call (fM_call (fM_call (fM_put (fM_call (fM_call (fM_call (fM_rf [8, 36, 66] _) fr_20 (by decide)) fr_30 (by decide)) fr_38 (by decide)) efv_42 (by decide)) fr_48 (by decide)) fr_53 (by decide)) fr_152 (by decide)) fr_211 (by decide)) fr_218 (by decide)) fr_245 (by decide)) fr_263 (by decide)), (fA_call (fA_put (fA_call (fA_put (fA_put (fA_call (fA_put (fA_call (fA_call (fA_call (fA_call (fA_call (fA_call (fA_call (fA_call (fA_put (fA_rf [4, 16, 24, 64, 65, 68, 75, 76, 77, 78, 79, 80] _) ear_3 (by decide)) fa_21 (by decide)) fa_31 (by decide)) fa_39 (by decide)) fa_49 (by decide)) fa_55 (by decide)) fa_153 (by decide)) fa_212 (by decide)) fa_219 (by decide)) ear_222 (by decide)) fa_247 (by decide)) ear_252 (by decide)) ear_255 (by decide)) fa_264 (by decide)) ear_266 (by decide)) fa_269 (by decide)), hp_271, hp_270, trivial⟩, ⟨by rw [ht]; exact hP, va_K.moved hW.alike hK⟩⟩, hS.F ht⟩) hS.2.2 dX12_leave_586
                                  · skip
                                    have i_278 : 0 ≤ x_267.toInt ∧ x_267.toInt ≤ 39 := iv_lt1 i_x_267 i_276 (Int32.not_le.mp c_277)
                                    have i_279 : 1 ≤ (fv 32).toInt ∧ (fv 32).toInt ≤ 40 := iv_lt2 i_x_267 i_276 (Int32.not_le.mp c_277)
                                    refine lv_aload_n hx hb dX12_leave_547 rfl (lv_at hl 0 rfl) ?_
                                    refine gM_68 hx hb htg hown hK hP dX12_leave_548 ?_
                                    refine lv_iload hx hb dX12_leave_551 (lv_at hl 2 rfl) ?_
                                    refine lM_68 hx hb hK hP (iv_in i_278 (by decide) (by decide)) dX12_leave_553 (fun v_280 ev_280 => ?_)
                                    refine lv_iconst (v := 3) hx hb dX12_leave_554 (by decide) ?_
                                    refine my_cut (P := fun R9 a9 Q9 => ∀ (ar_290 : Nat → Nat → Int32) (H : Heap) (locs : List Loc) (ls : Array Slot), rA ar_290 → fA [75] ar_268 ar_290 → wt_fm G9 (fv_260 8) (ar_290 4) → sW ar_290 → vM fv_260 ar_290 → va_P (dC, dI) vwCl (wsM h ad cA fv_260 wd_261 ar_290) H → va_S (aM h ad s.heap.size) s.heap H locs → lv_has ls 10 [(0, .ref h), (1, .int kk), (7, .int x_267)] → W p l e R9 s m a9 below meth c H locs 0 0 Q9 (F0 m 580 ls [])) ?_ (fun hj_295 => ?_)
                                    · intro ar_290 H locs ls hA_ar_290 fa_291 hp_292 hp_293 hp_294 hP hS hl
                                      obtain ⟨v_296, ev_296⟩ : ∃ z : Int32, z = x_267 + 1 := ⟨_, rfl⟩
                                      refine lv_iinc (v := v_296) (lv' := [(7, .int v_296), (0, .ref h), (1, .int kk)]) hx hb dX12_leave_580 hl (k := 2) rfl (by rw [ev_296]; rfl) (by decide) rfl (fun ls hl => ?_)
                                      have t_297 : v_296.toInt = x_267.toInt + 1 ∧ 1 ≤ v_296.toInt ∧ v_296.toInt ≤ 40 := iv_addc ev_296 i_278 (by decide) (by decide) (by decide)
                                      refine lv_goto (tgt := 538) hx hb dX12_leave_583 (by decide) ?_
                                      exact ih_273 v_296 ar_290 _ _ ls (by omega) (iv_w t_297.2 (by decide) (by decide)) hA_ar_290 (fA_call (fA_call (fA_rf [75] _) fa_269 (by decide)) fa_291 (by decide)) hp_292 hp_293 hp_294 hP hS (lv_sub hl [1, 2, 0] rfl)
                                    · skip
                                      refine lv_icmp_ne (tgt := 580) hx hb dX12_leave_555 (by decide) (fun c_281 => ?_) (fun c_281 => ?_)
                                      · skip
                                        exact hj_295 ar_268 _ _ ls hA_ar_268 (fA_rf [75] _) hp_270 hp_271 hp_272 hP hS (lv_sub hl [0, 1, 2] rfl)
                                      · skip
                                        have i_282 : 3 ≤ v_280.toInt ∧ v_280.toInt ≤ 3 := iv_eq1 (⟨by decide, by decide⟩ : (3 : Int) ≤ (3 : Int32).toInt ∧ (3 : Int32).toInt ≤ 3) c_281
                                        refine lv_aload_n hx hb dX12_leave_558 rfl (lv_at hl 0 rfl) ?_
                                        refine gM_71 hx hb htg hown hK hP dX12_leave_559 ?_
                                        refine lv_iload hx hb dX12_leave_562 (lv_at hl 2 rfl) ?_
                                        refine lM_71 hx hb hK hP (iv_in i_278 (by decide) (by decide)) dX12_leave_564 (fun v_283 ev_283 => ?_)
                                        have i_284 : (-1) ≤ v_283.toInt ∧ v_283.toInt ≤ 79 := ev_283 ▸ hA_ar_268 71 _
                                        have i_285 : 0 ≤ v_283.toInt ∧ v_283.toInt ≤ 79 := ⟨by have h9 := hp_271 x_267.toNatClampNeg; rw [← ev_280, ← ev_283] at h9; exact h9 (Int.le_trans (by decide) (i_282).1) (Int.le_trans (i_282).2 (by decide)), (i_284).2⟩
                                        refine lv_iload_n hx hb dX12_leave_565 rfl (lv_at hl 1 rfl) ?_
                                        refine lv_icmp_ne (tgt := 580) hx hb dX12_leave_566 (by decide) (fun c_286 => ?_) (fun c_286 => ?_)
                                        · skip
                                          exact hj_295 ar_268 _ _ ls hA_ar_268 (fA_rf [75] _) hp_270 hp_271 hp_272 hP hS (lv_sub hl [0, 1, 2] rfl)
                                        · skip
                                          refine lv_aload_n hx hb dX12_leave_569 rfl (lv_at hl 0 rfl) ?_
                                          refine gM_75 hx hb htg hown hK hP dX12_leave_570 ?_
                                          refine lv_iload hx hb dX12_leave_573 (lv_at hl 2 rfl) ?_
                                          refine lv_dup2_11 hx hb dX12_leave_575 rfl rfl ?_
                                          refine lM_75 hx hb hK hP (iv_in i_278 (by decide) (by decide)) dX12_leave_576 (fun v_287 ev_287 => ?_)
                                          refine lv_iconst (v := 1) hx hb dX12_leave_577 (by decide) ?_
                                          refine lv_iadd hx hb dX12_leave_578 ?_
                                          refine lv_topi (fun v_288 ev_288 => ?_)
                                          refine sM_75 hx hb hK hP hS hd (iv_in i_278 (by decide) (by decide)) dX12_leave_579 (fun H locs ar_289 ear_289 hP hS => ?_)
                                          have hA_ar_289 : rA ar_289 := rA_put hA_ar_268 ear_289 (iv_any _)
                                          exact hj_295 ar_289 _ _ ls hA_ar_289 (fA_put (fA_rf [75] _) ear_289 (by decide)) (mF_fr hp_270 (fM_rf [] _) (fA_put (fA_rf [75] _) ear_289 (by decide)) rfl rfl) (sW_fr hp_271 (fA_put (fA_rf [75] _) ear_289 (by decide)) rfl rfl) (vM_fr hp_272 (fM_rf [] _) (fA_put (fA_rf [75] _) ear_289 (by decide)) rfl rfl rfl rfl rfl) hP hS (lv_sub hl [0, 1, 2] rfl)
                              · skip
                                have z_299 : (0 : Int32).toInt = 0 := by decide
                                exact hj_275 41 0 ar_266 _ _ ls (by first | decide | omega) (iv_w (⟨by decide, by decide⟩ : (0 : Int) ≤ (0 : Int32).toInt ∧ (0 : Int32).toInt ≤ 0) (by decide) (by decide)) hA_ar_266 (fA_rf [75] _) (mF_fr p_259 (fM_rf [] _) (fA_put (fA_rf [77] _) ear_266 (by decide)) rfl rfl) (sW_fr hp_249 (fA_put (fA_call (fA_put (fA_put (fA_rf [4, 76, 77, 80] _) ear_252 (by decide)) ear_255 (by decide)) fa_264 (by decide)) ear_266 (by decide)) rfl rfl) (vM_fr hp_250 (fM_call (fM_rf [8] _) fr_263 (by decide)) (fA_put (fA_call (fA_put (fA_put (fA_rf [4, 76, 77, 80] _) ear_252 (by decide)) ear_255 (by decide)) fa_264 (by decide)) ear_266 (by decide)) rfl rfl rfl rfl rfl) hP hS (lv_sub hl [1, 2, 0] rfl)
                            · skip
                              refine lv_icmp_ne (tgt := 485) hx hb dX12_leave_468 (by decide) (fun c_237 => ?_) (fun c_237 => ?_)
                              · skip
                                refine lv_aload_n hx hb dX12_leave_485 rfl (lv_at hl 1 rfl) ?_
                                refine lv_dup hx hb dX12_leave_486 rfl ?_
                                refine gM_36 hx hb htg hown hK hP dX12_leave_487 ?_
                                refine my_ti (y := fv_52 36) ((fr_218 36 rfl).trans ((fr_211 36 rfl).trans ((fr_152 36 rfl)))) ?_
                                refine lv_iload hx hb dX12_leave_490 (lv_at hl 6 rfl) ?_
                                refine lv_isub hx hb dX12_leave_492 ?_
                                refine lv_topi (fun v_238 ev_238 => ?_)
                                refine pM_36 hx hb htg hown hK hP hS hd dX12_leave_493 (fun H locs fv_239 efv_239 hP hS => ?_)
                                have hF_fv_239 : rF fv_239 := rF_put hF_fv_215 efv_239 (iv_any v_238)
                                exact hj_251 fv_239 ar_222 _ _ ls hF_fv_239 (fM_put (fM_rf [36] _) efv_239 (by decide)) hA_ar_222 (fA_rf [24] _) (mF_fr (mF_fr hp_56 (fM_call (fM_call (fM_call (fM_rf [66] _) fr_152 (by decide)) fr_211 (by decide)) fr_218 (by decide)) (fA_put (fA_call (fA_call (fA_call (fA_rf [64, 65, 78] _) fa_153 (by decide)) fa_212 (by decide)) fa_219 (by decide)) ear_222 (by decide)) rfl rfl) (fM_put (fM_rf [36] _) efv_239 (by decide)) (fA_rf [] _) rfl rfl) (sW_fr hp_57 (fA_put (fA_call (fA_call (fA_call (fA_rf [64, 65, 78] _) fa_153 (by decide)) fa_212 (by decide)) fa_219 (by decide)) ear_222 (by decide)) rfl rfl) (vM_fr (vM_fr hp_58 (fM_call (fM_call (fM_call (fM_rf [66] _) fr_152 (by decide)) fr_211 (by decide)) fr_218 (by decide)) (fA_put (fA_call (fA_call (fA_call (fA_rf [64, 65, 78] _) fa_153 (by decide)) fa_212 (by decide)) fa_219 (by decide)) ear_222 (by decide)) rfl rfl rfl rfl rfl) (fM_put (fM_rf [36] _) efv_239 (by decide)) (fA_rf [] _) rfl rfl rfl rfl rfl) hP hS (lv_sub hl [1, 2, 3, 4, 5] rfl)
                              · skip
                                have i_240 : 2 ≤ v_223.toInt ∧ v_223.toInt ≤ 2 := iv_eq1 (⟨by decide, by decide⟩ : (2 : Int) ≤ (2 : Int32).toInt ∧ (2 : Int32).toInt ≤ 2) c_237
                                refine lv_aload_n hx hb dX12_leave_471 rfl (lv_at hl 1 rfl) ?_
                                refine gM_24 hx hb htg hown hK hP dX12_leave_472 ?_
                                refine lv_iload_n hx hb dX12_leave_475 rfl (lv_at hl 3 rfl) ?_
                                refine lv_dup2_11 hx hb dX12_leave_476 rfl rfl ?_
                                refine lM_24 hx hb hK hP (iv_in i_2 (by decide) (by decide)) dX12_leave_477 (fun v_241 ev_241 => ?_)
                                refine lv_iload hx hb dX12_leave_478 (lv_at hl 6 rfl) ?_
                                refine lv_isub hx hb dX12_leave_480 ?_
                                refine lv_topi (fun v_242 ev_242 => ?_)
                                refine sM_24 hx hb hK hP hS hd (iv_in i_2 (by decide) (by decide)) dX12_leave_481 (fun H locs ar_243 ear_243 hP hS => ?_)
                                have hA_ar_243 : rA ar_243 := rA_put hA_ar_222 ear_243 (iv_any _)
                                refine lv_goto (tgt := 496) hx hb dX12_leave_482 (by decide) ?_
                                exact hj_251 fv_215 ar_243 _ _ ls hF_fv_215 (fM_rf [36] _) hA_ar_243 (fA_put (fA_rf [24] _) ear_243 (by decide)) (mF_fr (mF_fr hp_56 (fM_call (fM_call (fM_call (fM_rf [66] _) fr_152 (by decide)) fr_211 (by decide)) fr_218 (by decide)) (fA_put (fA_call (fA_call (fA_call (fA_rf [64, 65, 78] _) fa_153 (by decide)) fa_212 (by decide)) fa_219 (by decide)) ear_222 (by decide)) rfl rfl) (fM_rf [] _) (fA_put (fA_rf [24] _) ear_243 (by decide)) rfl rfl) (sW_fr (sW_fr hp_57 (fA_put (fA_call (fA_call (fA_call (fA_rf [64, 65, 78] _) fa_153 (by decide)) fa_212 (by decide)) fa_219 (by decide)) ear_222 (by decide)) rfl rfl) (fA_put (fA_rf [24] _) ear_243 (by decide)) rfl rfl) (vM_fr (vM_fr hp_58 (fM_call (fM_call (fM_call (fM_rf [66] _) fr_152 (by decide)) fr_211 (by decide)) fr_218 (by decide)) (fA_put (fA_call (fA_call (fA_call (fA_rf [64, 65, 78] _) fa_153 (by decide)) fa_212 (by decide)) fa_219 (by decide)) ear_222 (by decide)) rfl rfl rfl rfl rfl) (fM_rf [] _) (fA_put (fA_rf [24] _) ear_243 (by decide)) rfl rfl rfl rfl rfl) hP hS (lv_sub hl [1, 2, 3, 4, 5] rfl)
                          · skip
                            have i_300 : 0 ≤ x_232.toInt ∧ x_232.toInt ≤ 0 := iv_eq1 (⟨by decide, by decide⟩ : (0 : Int) ≤ (0 : Int32).toInt ∧ (0 : Int32).toInt ≤ 0) c_234
                            refine lv_aload_n hx hb dX12_leave_405 rfl (lv_at hl 1 rfl) ?_
                            refine gM_79 hx hb htg hown hK hP dX12_leave_406 ?_
                            refine lv_iload_n hx hb dX12_leave_409 rfl (lv_at hl 3 rfl) ?_
                            refine lv_iconst (v := 1) hx hb dX12_leave_410 (by decide) ?_
                            refine sM_79 hx hb hK hP hS hd (iv_in i_2 (by decide) (by decide)) dX12_leave_411 (fun H locs ar_301 ear_301 hP hS => ?_)
                            have hA_ar_301 : rA ar_301 := rA_put hA_ar_222 ear_301 (iv_any _)
                            refine lv_iconst (v := 0) hx hb dX12_leave_412 (by decide) ?_
                            refine lv_istore (lv' := [(9, .int 0), (8, .int x_232), (0, .ref h), (1, .int kk), (2, .int v_1), (5, .int x_50), (6, .int r_214), (7, .int r_207)]) hx hb dX12_leave_413 hl (by decide) rfl (fun ls hl => ?_)
                            refine my_cut (P := fun R9 a9 Q9 => ∀ (n_308 : Nat) (x_302 : Int32) (ar_303 : Nat → Nat → Int32) (H : Heap) (locs : List Loc) (ls : Array Slot), 40 - x_302.toInt < (n_308 : Int) → (0 ≤ x_302.toInt ∧ x_302.toInt ≤ 40) → rA ar_303 → fA [68] ar_301 ar_303 → wt_fm G9 (fv_215 8) (ar_303 4) → sW ar_303 → vM fv_215 ar_303 → va_P (dC, dI) vwCl (wsM h ad cA fv_215 wd_216 ar_303) H → va_S (aM h ad s.heap.size) s.heap H locs → lv_has ls 10 [(0, .ref h), (1, .int kk), (9, .int x_302)] → W p l e R9 s m a9 below meth c H locs 0 0 Q9 (F0 m 415 ls [])) ?_ (fun hj_310 => ?_)
                            · intro n_308
                              induction n_308 with
                              | zero => intro x_302 ar_303 H locs ls fu_309 i_x_302 hA_ar_303 fa_304 hp_305 hp_306 hp_307; exfalso; omega
                              | succ n_308 ih_308 =>
                                intro x_302 ar_303 H locs ls fu_309 i_x_302 hA_ar_303 fa_304 hp_305 hp_306 hp_307 hP hS hl
                                refine lv_iload hx hb dX12_leave_415 (lv_at hl 2 rfl) ?_
                                refine lv_aload_n hx hb dX12_leave_417 rfl (lv_at hl 0 rfl) ?_
                                refine gM_32 hx hb htg hown hK hP dX12_leave_418 ?_
                                refine my_ti (y := fv 32) ((fr_218 32 rfl).trans ((fr_211 32 rfl).trans ((fr_152 32 rfl).trans ((fr_53 32 rfl).trans ((fr_48 32 rfl).trans ((congrFun efv_42 32).trans ((fr_38 32 rfl).trans ((fr_30 32 rfl).trans ((fr_20 32 rfl)))))))))) ?_
                                have i_311 : 0 ≤ (fv 32).toInt ∧ (fv 32).toInt ≤ 40 := hF_fv 32
                                refine lv_icmp_ge (tgt := 460) hx hb dX12_leave_421 (by decide) (fun c_312 => ?_) (fun c_312 => ?_)
                                · skip
                                  exact W.vret hx hb hr (fun t ht hW => ⟨⟨(fv_215, wd_216, ar_303), rfl, ⟨hF_fv_215, hA_ar_303, (fM_call (fM_call (fM_call (fM_call (fM_call (fM_put (fM_call (fM_call (fM_call (fM_rf [8, 36, 66] _) fr_20 (by decide)) fr_30 (by decide)) fr_38 (by decide)) efv_42 (by decide)) fr_48 (by decide)) fr_53 (by decide)) fr_152 (by decide)) fr_211 (by decide)) fr_218 (by decide)), (fA_call (fA_put (fA_put (fA_call (fA_call (fA_call (fA_call (fA_call (fA_call (fA_call (fA_call (fA_put (fA_rf [4, 16, 24, 64, 65, 68, 75, 76, 77, 78, 79, 80] _) ear_3 (by decide)) fa_21 (by decide)) fa_31 (by decide)) fa_39 (by decide)) fa_49 (by decide)) fa_55 (by decide)) fa_153 (by decide)) fa_212 (by decide)) fa_219 (by decide)) ear_222 (by decide)) ear_301 (by decide)) fa_304 (by decide)), hp_306, hp_305, trivial⟩, ⟨by rw [ht]; exact hP, va_K.moved hW.alike hK⟩⟩, hS.F ht⟩) hS.2.2 dX12_leave_460
                                · skip
                                  have i_313 : 0 ≤ x_302.toInt ∧ x_302.toInt ≤ 39 := iv_lt1 i_x_302 i_311 (Int32.not_le.mp c_312)
                                  have i_314 : 1 ≤ (fv 32).toInt ∧ (fv 32).toInt ≤ 40 := iv_lt2 i_x_302 i_311 (Int32.not_le.mp c_312)
                                  refine lv_aload_n hx hb dX12_leave_424 rfl (lv_at hl 0 rfl) ?_
                                  refine gM_68 hx hb htg hown hK hP dX12_leave_425 ?_
                                  refine lv_iload hx hb dX12_leave_428 (lv_at hl 2 rfl) ?_
                                  refine lM_68 hx hb hK hP (iv_in i_313 (by decide) (by decide)) dX12_leave_430 (fun v_315 ev_315 => ?_)
                                  refine lv_iconst (v := 3) hx hb dX12_leave_431 (by decide) ?_
                                  refine my_cut (P := fun R9 a9 Q9 => ∀ (ar_324 : Nat → Nat → Int32) (H : Heap) (locs : List Loc) (ls : Array Slot), rA ar_324 → fA [68] ar_303 ar_324 → wt_fm G9 (fv_215 8) (ar_324 4) → sW ar_324 → vM fv_215 ar_324 → va_P (dC, dI) vwCl (wsM h ad cA fv_215 wd_216 ar_324) H → va_S (aM h ad s.heap.size) s.heap H locs → lv_has ls 10 [(0, .ref h), (1, .int kk), (9, .int x_302)] → W p l e R9 s m a9 below meth c H locs 0 0 Q9 (F0 m 454 ls [])) ?_ (fun hj_329 => ?_)
                                  · intro ar_324 H locs ls hA_ar_324 fa_325 hp_326 hp_327 hp_328 hP hS hl
                                    obtain ⟨v_330, ev_330⟩ : ∃ z : Int32, z = x_302 + 1 := ⟨_, rfl⟩
                                    refine lv_iinc (v := v_330) (lv' := [(9, .int v_330), (0, .ref h), (1, .int kk)]) hx hb dX12_leave_454 hl (k := 2) rfl (by rw [ev_330]; rfl) (by decide) rfl (fun ls hl => ?_)
                                    have t_331 : v_330.toInt = x_302.toInt + 1 ∧ 1 ≤ v_330.toInt ∧ v_330.toInt ≤ 40 := iv_addc ev_330 i_313 (by decide) (by decide) (by decide)
                                    refine lv_goto (tgt := 415) hx hb dX12_leave_457 (by decide) ?_
                                    exact ih_308 v_330 ar_324 _ _ ls (by omega) (iv_w t_331.2 (by decide) (by decide)) hA_ar_324 (fA_call (fA_call (fA_rf [68] _) fa_304 (by decide)) fa_325 (by decide)) hp_326 hp_327 hp_328 hP hS (lv_sub hl [1, 2, 0] rfl)
                                  · skip
                                    refine lv_icmp_ne (tgt := 454) hx hb dX12_leave_432 (by decide) (fun c_316 => ?_) (fun c_316 => ?_)
                                    · skip
                                      exact hj_329 ar_303 _ _ ls hA_ar_303 (fA_rf [68] _) hp_305 hp_306 hp_307 hP hS (lv_sub hl [0, 1, 2] rfl)
                                    · skip
                                      have i_317 : 3 ≤ v_315.toInt ∧ v_315.toInt ≤ 3 := iv_eq1 (⟨by decide, by decide⟩ : (3 : Int) ≤ (3 : Int32).toInt ∧ (3 : Int32).toInt ≤ 3) c_316
                                      refine lv_aload_n hx hb dX12_leave_435 rfl (lv_at hl 0 rfl) ?_
                                      refine gM_71 hx hb htg hown hK hP dX12_leave_436 ?_
                                      refine lv_iload hx hb dX12_leave_439 (lv_at hl 2 rfl) ?_
                                      refine lM_71 hx hb hK hP (iv_in i_313 (by decide) (by decide)) dX12_leave_441 (fun v_318 ev_318 => ?_)
                                      have i_319 : (-1) ≤ v_318.toInt ∧ v_318.toInt ≤ 79 := ev_318 ▸ hA_ar_303 71 _
                                      have i_320 : 0 ≤ v_318.toInt ∧ v_318.toInt ≤ 79 := ⟨by have h9 := hp_306 x_302.toNatClampNeg; rw [← ev_315, ← ev_318] at h9; exact h9 (Int.le_trans (by decide) (i_317).1) (Int.le_trans (i_317).2 (by decide)), (i_319).2⟩
                                      refine lv_iload_n hx hb dX12_leave_442 rfl (lv_at hl 1 rfl) ?_
                                      refine lv_icmp_ne (tgt := 454) hx hb dX12_leave_443 (by decide) (fun c_321 => ?_) (fun c_321 => ?_)
                                      · skip
                                        exact hj_329 ar_303 _ _ ls hA_ar_303 (fA_rf [68] _) hp_305 hp_306 hp_307 hP hS (lv_sub hl [0, 1, 2] rfl)
                                      · skip
                                        refine lv_aload_n hx hb dX12_leave_446 rfl (lv_at hl 0 rfl) ?_
                                        refine gM_68 hx hb htg hown hK hP dX12_leave_447 ?_
                                        refine lv_iload hx hb dX12_leave_450 (lv_at hl 2 rfl) ?_
                                        refine lv_iconst (v := 2) hx hb dX12_leave_452 (by decide) ?_
                                        refine sM_68 hx hb hK hP hS hd (iv_in i_313 (by decide) (by decide)) dX12_leave_453 (fun H locs ar_322 ear_322 hP hS => ?_)
                                        have hA_ar_322 : rA ar_322 := rA_put hA_ar_303 ear_322 (iv_any _)
                                        have hp_323 : sW ar_322 := sW_68 hp_306 ear_322 (Or.inr (Or.inr (by have h9 := hp_306 x_302.toNatClampNeg; rw [← ev_315] at h9; exact h9 (Int.le_trans (by decide) (i_317).1) (Int.le_trans (i_317).2 (by decide)))))
                                        exact hj_329 ar_322 _ _ ls hA_ar_322 (fA_put (fA_rf [68] _) ear_322 (by decide)) (mF_fr hp_305 (fM_rf [] _) (fA_put (fA_rf [68] _) ear_322 (by decide)) rfl rfl) hp_323 (vM_fr hp_307 (fM_rf [] _) (fA_put (fA_rf [68] _) ear_322 (by decide)) rfl rfl rfl rfl rfl) hP hS (lv_sub hl [0, 1, 2] rfl)
                            · skip
                              have z_333 : (0 : Int32).toInt = 0 := by decide
                              exact hj_310 41 0 ar_301 _ _ ls (by first | decide | omega) (iv_w (⟨by decide, by decide⟩ : (0 : Int) ≤ (0 : Int32).toInt ∧ (0 : Int32).toInt ≤ 0) (by decide) (by decide)) hA_ar_301 (fA_rf [68] _) (mF_fr (mF_fr hp_56 (fM_call (fM_call (fM_call (fM_rf [66] _) fr_152 (by decide)) fr_211 (by decide)) fr_218 (by decide)) (fA_put (fA_call (fA_call (fA_call (fA_rf [64, 65, 78] _) fa_153 (by decide)) fa_212 (by decide)) fa_219 (by decide)) ear_222 (by decide)) rfl rfl) (fM_rf [] _) (fA_put (fA_rf [79] _) ear_301 (by decide)) rfl rfl) (sW_fr (sW_fr hp_57 (fA_put (fA_call (fA_call (fA_call (fA_rf [64, 65, 78] _) fa_153 (by decide)) fa_212 (by decide)) fa_219 (by decide)) ear_222 (by decide)) rfl rfl) (fA_put (fA_rf [79] _) ear_301 (by decide)) rfl rfl) (vM_fr (vM_fr hp_58 (fM_call (fM_call (fM_call (fM_rf [66] _) fr_152 (by decide)) fr_211 (by decide)) fr_218 (by decide)) (fA_put (fA_call (fA_call (fA_call (fA_rf [64, 65, 78] _) fa_153 (by decide)) fa_212 (by decide)) fa_219 (by decide)) ear_222 (by decide)) rfl rfl rfl rfl rfl) (fM_rf [] _) (fA_put (fA_rf [79] _) ear_301 (by decide)) rfl rfl rfl rfl rfl) hP hS (lv_sub hl [2, 3, 0] rfl)
                        · skip
                          refine lv_icmp_lt (tgt := 397) hx hb dX12_leave_390 (by decide) (fun c_229 => ?_) (fun c_229 => ?_)
                          · skip
                            have i_230 : (-2147483648) ≤ x_227.toInt ∧ x_227.toInt ≤ 2147483646 := iv_lt1 (iv_any x_227) (iv_any r_207) c_229
                            have i_231 : (-2147483647) ≤ r_207.toInt ∧ r_207.toInt ≤ 2147483647 := iv_lt2 (iv_any x_227) (iv_any r_207) c_229
                            refine lv_iconst (v := 0) hx hb dX12_leave_397 (by decide) ?_
                            exact hj_233 0 _ _ ls (iv_w (⟨by decide, by decide⟩ : (0 : Int) ≤ (0 : Int32).toInt ∧ (0 : Int32).toInt ≤ 0) (by decide) (by decide)) hP hS (lv_sub hl [0, 1, 2, 3, 4, 5] rfl)
                          · skip
                            refine lv_iconst (v := 1) hx hb dX12_leave_393 (by decide) ?_
                            refine lv_goto (tgt := 398) hx hb dX12_leave_394 (by decide) ?_
                            exact hj_233 1 _ _ ls (iv_w (⟨by decide, by decide⟩ : (1 : Int) ≤ (1 : Int32).toInt ∧ (1 : Int32).toInt ≤ 1) (by decide) (by decide)) hP hS (lv_sub hl [0, 1, 2, 3, 4, 5] rfl)
                      · skip
                        refine lv_icmp_ne (tgt := 384) hx hb dX12_leave_372 (by decide) (fun c_224 => ?_) (fun c_224 => ?_)
                        · skip
                          refine lv_aload_n hx hb dX12_leave_384 rfl (lv_at hl 2 rfl) ?_
                          refine gM_36 hx hb htg hown hK hP dX12_leave_385 ?_
                          refine my_ti (y := fv_52 36) ((fr_218 36 rfl).trans ((fr_211 36 rfl).trans ((fr_152 36 rfl)))) ?_
                          exact hj_228 (fv_52 36) _ _ ls  hP hS (lv_sub hl [2, 3, 4, 5, 0, 1] rfl)
                        · skip
                          have i_225 : 2 ≤ v_223.toInt ∧ v_223.toInt ≤ 2 := iv_eq1 (⟨by decide, by decide⟩ : (2 : Int) ≤ (2 : Int32).toInt ∧ (2 : Int32).toInt ≤ 2) c_224
                          refine lv_aload_n hx hb dX12_leave_375 rfl (lv_at hl 2 rfl) ?_
                          refine gM_24 hx hb htg hown hK hP dX12_leave_376 ?_
                          refine lv_iload_n hx hb dX12_leave_379 rfl (lv_at hl 4 rfl) ?_
                          refine lM_24 hx hb hK hP (iv_in i_2 (by decide) (by decide)) dX12_leave_380 (fun v_226 ev_226 => ?_)
                          refine lv_goto (tgt := 388) hx hb dX12_leave_381 (by decide) ?_
                          exact hj_228 v_226 _ _ ls  hP hS (lv_sub hl [2, 3, 4, 5, 0, 1] rfl)
                  · skip
                    refine lv_icmp_gt (tgt := 302) hx hb dX12_leave_136 (by decide) (fun c_62 => ?_) (fun c_62 => ?_)
                    · skip
                      have i_63 : 720 ≤ x_51.toInt ∧ x_51.toInt ≤ 720 := iv_lt2 (⟨by decide, by decide⟩ : (719 : Int) ≤ (719 : Int32).toInt ∧ (719 : Int32).toInt ≤ 719) i_x_51 c_62
                      exact hj_146  _ _ ls  hP hS (lv_sub hl [0, 1, 2, 4] rfl)
                    · skip
                      have i_64 : 0 ≤ x_51.toInt ∧ x_51.toInt ≤ 719 := iv_le1 i_x_51 (⟨by decide, by decide⟩ : (719 : Int) ≤ (719 : Int32).toInt ∧ (719 : Int32).toInt ≤ 719) (Int32.not_lt.mp c_62)
                      refine lv_iload hx hb dX12_leave_139 (lv_at hl 4 rfl) ?_
                      refine lv_aload_n hx hb dX12_leave_141 rfl (lv_at hl 0 rfl) ?_
                      refine gM_22 hx hb htg hown hK hP dX12_leave_142 ?_
                      refine lv_iload_n hx hb dX12_leave_145 rfl (lv_at hl 2 rfl) ?_
                      refine lM_22 hx hb hK hP (iv_in i_2 (by decide) (by decide)) dX12_leave_146 (fun v_65 ev_65 => ?_)
                      refine lv_icmp_ge (tgt := 302) hx hb dX12_leave_147 (by decide) (fun c_66 => ?_) (fun c_66 => ?_)
                      · skip
                        exact hj_146  _ _ ls  hP hS (lv_sub hl [0, 1, 2, 4] rfl)
                      · skip
                        have i_67 : 0 ≤ x_50.toInt ∧ x_50.toInt ≤ 2147483646 := iv_lt1 i_x_50 (iv_any v_65) (Int32.not_le.mp c_66)
                        have i_68 : 1 ≤ v_65.toInt ∧ v_65.toInt ≤ 2147483647 := iv_lt2 i_x_50 (iv_any v_65) (Int32.not_le.mp c_66)
                        refine lv_iconst (v := 0) hx hb dX12_leave_150 (by decide) ?_
                        refine lv_istore (lv' := [(7, .int 0), (0, .ref h), (1, .int kk), (2, .int v_1), (4, .int r_44), (5, .int x_50), (6, .int x_51)]) hx hb dX12_leave_151 hl (by decide) rfl (fun ls hl => ?_)
                        refine my_cut (P := fun R9 a9 Q9 => ∀ (n_78 : Nat) (x_69 : Int32) (x_70 : Int32) (fv_71 : Nat → Int32) (ar_73 : Nat → Nat → Int32) (H : Heap) (locs : List Loc) (ls : Array Slot), 40 - x_70.toInt < (n_78 : Int) → (0 ≤ x_69.toInt ∧ x_69.toInt ≤ 2147483647) → (0 ≤ x_70.toInt ∧ x_70.toInt ≤ 40) → rF fv_71 → fM [36] fv_52 fv_71 → rA ar_73 → fA [16, 24, 68] ar_54 ar_73 → wt_fm G9 (fv_71 8) (ar_73 4) → sW ar_73 → vM fv_71 ar_73 → va_P (dC, dI) vwCl (wsM h ad cA fv_71 wd_46 ar_73) H → va_S (aM h ad s.heap.size) s.heap H locs → lv_has ls 10 [(0, .ref h), (1, .int kk), (2, .int v_1), (4, .int r_44), (5, .int x_69), (6, .int x_51), (7, .int x_70)] → W p l e R9 s m a9 below meth c H locs 0 0 Q9 (F0 m 153 ls [])) ?_ (fun hj_80 => ?_)
                        · intro n_78
                          induction n_78 with
                          | zero => intro x_69 x_70 fv_71 ar_73 H locs ls fu_79 i_x_69 i_x_70 hF_fv_71 fr_72 hA_ar_73 fa_74 hp_75 hp_76 hp_77; exfalso; omega
                          | succ n_78 ih_78 =>
                            intro x_69 x_70 fv_71 ar_73 H locs ls fu_79 i_x_69 i_x_70 hF_fv_71 fr_72 hA_ar_73 fa_74 hp_75 hp_76 hp_77 hP hS hl
                            refine lv_iload hx hb dX12_leave_153 (lv_at hl 6 rfl) ?_
                            refine lv_aload_n hx hb dX12_leave_155 rfl (lv_at hl 0 rfl) ?_
                            refine gM_32 hx hb htg hown hK hP dX12_leave_156 ?_
                            refine my_ti (y := fv 32) ((fr_72 32 rfl).trans ((fr_53 32 rfl).trans ((fr_48 32 rfl).trans ((congrFun efv_42 32).trans ((fr_38 32 rfl).trans ((fr_30 32 rfl).trans ((fr_20 32 rfl)))))))) ?_
                            have i_81 : 0 ≤ (fv 32).toInt ∧ (fv 32).toInt ≤ 40 := hF_fv 32
                            refine my_cut (P := fun R9 a9 Q9 => ∀  (H : Heap) (locs : List Loc) (ls : Array Slot), va_P (dC, dI) vwCl (wsM h ad cA fv_71 wd_46 ar_73) H → va_S (aM h ad s.heap.size) s.heap H locs → lv_has ls 10 [(0, .ref h), (1, .int kk), (2, .int v_1), (4, .int r_44), (5, .int x_69), (6, .int x_51)] → W p l e R9 s m a9 below meth c H locs 0 0 Q9 (F0 m 296 ls [])) ?_ (fun hj_141 => ?_)
                            · intro  H locs ls  hP hS hl
                              obtain ⟨v_142, ev_142⟩ : ∃ z : Int32, z = x_51 + 1 := ⟨_, rfl⟩
                              refine lv_iinc (v := v_142) (lv' := [(6, .int v_142), (0, .ref h), (1, .int kk), (2, .int v_1), (4, .int r_44), (5, .int x_69)]) hx hb dX12_leave_296 hl (k := 5) rfl (by rw [ev_142]; rfl) (by decide) rfl (fun ls hl => ?_)
                              have t_143 : v_142.toInt = x_51.toInt + 1 ∧ 1 ≤ v_142.toInt ∧ v_142.toInt ≤ 720 := iv_addc ev_142 i_64 (by decide) (by decide) (by decide)
                              refine lv_goto (tgt := 131) hx hb dX12_leave_299 (by decide) ?_
                              exact ih_59 x_69 v_142 fv_71 ar_73 _ _ ls (by omega) i_x_69 (iv_w t_143.2 (by decide) (by decide)) hF_fv_71 (fM_call (fM_call (fM_rf [36] _) fr_53 (by decide)) fr_72 (by decide)) hA_ar_73 (fA_call (fA_call (fA_rf [16, 24, 68] _) fa_55 (by decide)) fa_74 (by decide)) hp_75 hp_76 hp_77 hP hS (lv_sub hl [1, 2, 3, 4, 5, 0] rfl)
                            · skip
                              refine lv_icmp_ge (tgt := 296) hx hb dX12_leave_159 (by decide) (fun c_82 => ?_) (fun c_82 => ?_)
                              · skip
                                exact hj_141  _ _ ls  hP hS (lv_sub hl [0, 1, 2, 3, 4, 5] rfl)
                              · skip
                                have i_83 : 0 ≤ x_70.toInt ∧ x_70.toInt ≤ 39 := iv_lt1 i_x_70 i_81 (Int32.not_le.mp c_82)
                                have i_84 : 1 ≤ (fv 32).toInt ∧ (fv 32).toInt ≤ 40 := iv_lt2 i_x_70 i_81 (Int32.not_le.mp c_82)
                                refine lv_iload hx hb dX12_leave_162 (lv_at hl 4 rfl) ?_
                                refine lv_aload_n hx hb dX12_leave_164 rfl (lv_at hl 0 rfl) ?_
                                refine gM_22 hx hb htg hown hK hP dX12_leave_165 ?_
                                refine lv_iload_n hx hb dX12_leave_168 rfl (lv_at hl 2 rfl) ?_
                                refine lM_22 hx hb hK hP (iv_in i_2 (by decide) (by decide)) dX12_leave_169 (fun v_85 ev_85 => ?_)
                                obtain rfl : v_65 = v_85 := ev_65.trans ((congrFun ((fA_call (fA_rf [16, 24, 68] _) fa_74 (by decide)) 22 rfl) _).symm.trans ev_85.symm)
                                refine lv_icmp_ge (tgt := 296) hx hb dX12_leave_170 (by decide) (fun c_86 => ?_) (fun c_86 => ?_)
                                · skip
                                  have i_87 : 1 ≤ x_69.toInt ∧ x_69.toInt ≤ 2147483647 := iv_le2 i_68 i_x_69 c_86
                                  exact hj_141  _ _ ls  hP hS (lv_sub hl [0, 1, 2, 3, 4, 5] rfl)
                                · skip
                                  have i_88 : 0 ≤ x_69.toInt ∧ x_69.toInt ≤ 2147483646 := iv_lt1 i_x_69 i_68 (Int32.not_le.mp c_86)
                                  refine lv_aload_n hx hb dX12_leave_173 rfl (lv_at hl 0 rfl) ?_
                                  refine gM_13 hx hb htg hown hK hP dX12_leave_174 ?_
                                  refine lv_iload hx hb dX12_leave_177 (lv_at hl 6 rfl) ?_
                                  refine lM_13 hx hb hK hP (iv_in i_83 (by decide) (by decide)) dX12_leave_179 (fun v_89 ev_89 => ?_)
                                  refine lv_iload hx hb dX12_leave_180 (lv_at hl 5 rfl) ?_
                                  refine my_cut (P := fun R9 a9 Q9 => ∀ (x_129 : Int32) (fv_130 : Nat → Int32) (ar_132 : Nat → Nat → Int32) (H : Heap) (locs : List Loc) (ls : Array Slot), (0 ≤ x_129.toInt ∧ x_129.toInt ≤ 2147483647) → rF fv_130 → fM [36] fv_71 fv_130 → rA ar_132 → fA [16, 24, 68] ar_73 ar_132 → wt_fm G9 (fv_130 8) (ar_132 4) → sW ar_132 → vM fv_130 ar_132 → va_P (dC, dI) vwCl (wsM h ad cA fv_130 wd_46 ar_132) H → va_S (aM h ad s.heap.size) s.heap H locs → lv_has ls 10 [(0, .ref h), (1, .int kk), (2, .int v_1), (4, .int r_44), (5, .int x_129), (6, .int x_51), (7, .int x_70)] → W p l e R9 s m a9 below meth c H locs 0 0 Q9 (F0 m 290 ls [])) ?_ (fun hj_137 => ?_)
                                  · intro x_129 fv_130 ar_132 H locs ls i_x_129 hF_fv_130 fr_131 hA_ar_132 fa_133 hp_134 hp_135 hp_136 hP hS hl
                                    obtain ⟨v_138, ev_138⟩ : ∃ z : Int32, z = x_70 + 1 := ⟨_, rfl⟩
                                    refine lv_iinc (v := v_138) (lv' := [(7, .int v_138), (0, .ref h), (1, .int kk), (2, .int v_1), (4, .int r_44), (5, .int x_129), (6, .int x_51)]) hx hb dX12_leave_290 hl (k := 6) rfl (by rw [ev_138]; rfl) (by decide) rfl (fun ls hl => ?_)
                                    have t_139 : v_138.toInt = x_70.toInt + 1 ∧ 1 ≤ v_138.toInt ∧ v_138.toInt ≤ 40 := iv_addc ev_138 i_83 (by decide) (by decide) (by decide)
                                    refine lv_goto (tgt := 153) hx hb dX12_leave_293 (by decide) ?_
                                    exact ih_78 x_129 v_138 fv_130 ar_132 _ _ ls (by omega) i_x_129 (iv_w t_139.2 (by decide) (by decide)) hF_fv_130 (fM_call (fM_call (fM_rf [36] _) fr_72 (by decide)) fr_131 (by decide)) hA_ar_132 (fA_call (fA_call (fA_rf [16, 24, 68] _) fa_74 (by decide)) fa_133 (by decide)) hp_134 hp_135 hp_136 hP hS (lv_sub hl [1, 2, 3, 4, 5, 6, 0] rfl)
                                  · skip
                                    refine lv_icmp_ne (tgt := 290) hx hb dX12_leave_182 (by decide) (fun c_90 => ?_) (fun c_90 => ?_)
                                    · skip
                                      exact hj_137 x_69 fv_71 ar_73 _ _ ls (iv_w i_88 (by decide) (by decide)) hF_fv_71 (fM_rf [36] _) hA_ar_73 (fA_rf [16, 24, 68] _) hp_75 hp_76 hp_77 hP hS (lv_sub hl [0, 1, 2, 3, 4, 5, 6] rfl)
                                    · skip
                                      have i_91 : 0 ≤ v_89.toInt ∧ v_89.toInt ≤ 719 := iv_eq1 i_64 c_90
                                      refine lv_aload_n hx hb dX12_leave_185 rfl (lv_at hl 0 rfl) ?_
                                      refine gM_68 hx hb htg hown hK hP dX12_leave_186 ?_
                                      refine lv_iload hx hb dX12_leave_189 (lv_at hl 6 rfl) ?_
                                      refine lM_68 hx hb hK hP (iv_in i_83 (by decide) (by decide)) dX12_leave_191 (fun v_92 ev_92 => ?_)
                                      refine lv_iconst (v := 2) hx hb dX12_leave_192 (by decide) ?_
                                      refine lv_icmp_ne (tgt := 290) hx hb dX12_leave_193 (by decide) (fun c_93 => ?_) (fun c_93 => ?_)
                                      · skip
                                        exact hj_137 x_69 fv_71 ar_73 _ _ ls (iv_w i_88 (by decide) (by decide)) hF_fv_71 (fM_rf [36] _) hA_ar_73 (fA_rf [16, 24, 68] _) hp_75 hp_76 hp_77 hP hS (lv_sub hl [0, 1, 2, 3, 4, 5, 6] rfl)
                                      · skip
                                        have i_94 : 2 ≤ v_92.toInt ∧ v_92.toInt ≤ 2 := iv_eq1 (⟨by decide, by decide⟩ : (2 : Int) ≤ (2 : Int32).toInt ∧ (2 : Int32).toInt ≤ 2) c_93
                                        refine lv_aload_n hx hb dX12_leave_196 rfl (lv_at hl 0 rfl) ?_
                                        refine gM_71 hx hb htg hown hK hP dX12_leave_197 ?_
                                        refine lv_iload hx hb dX12_leave_200 (lv_at hl 6 rfl) ?_
                                        refine lM_71 hx hb hK hP (iv_in i_83 (by decide) (by decide)) dX12_leave_202 (fun v_95 ev_95 => ?_)
                                        have i_96 : (-1) ≤ v_95.toInt ∧ v_95.toInt ≤ 79 := ev_95 ▸ hA_ar_73 71 _
                                        have i_97 : 0 ≤ v_95.toInt ∧ v_95.toInt ≤ 79 := ⟨by have h9 := hp_76 x_70.toNatClampNeg; rw [← ev_92, ← ev_95] at h9; exact h9 (Int.le_trans (by decide) (i_94).1) (Int.le_trans (i_94).2 (by decide)), (i_96).2⟩
                                        refine lv_iload_n hx hb dX12_leave_203 rfl (lv_at hl 1 rfl) ?_
                                        refine lv_icmp_ne (tgt := 290) hx hb dX12_leave_204 (by decide) (fun c_98 => ?_) (fun c_98 => ?_)
                                        · skip
                                          exact hj_137 x_69 fv_71 ar_73 _ _ ls (iv_w i_88 (by decide) (by decide)) hF_fv_71 (fM_rf [36] _) hA_ar_73 (fA_rf [16, 24, 68] _) hp_75 hp_76 hp_77 hP hS (lv_sub hl [0, 1, 2, 3, 4, 5, 6] rfl)
                                        · skip
                                          refine lv_aload_n hx hb dX12_leave_207 rfl (lv_at hl 0 rfl) ?_
                                          refine gM_16 hx hb htg hown hK hP dX12_leave_208 ?_
                                          refine lv_iload hx hb dX12_leave_211 (lv_at hl 6 rfl) ?_
                                          refine lM_16 hx hb hK hP (iv_in i_83 (by decide) (by decide)) dX12_leave_213 (fun v_99 ev_99 => ?_)
                                          refine lv_iload hx hb dX12_leave_214 (lv_at hl 3 rfl) ?_
                                          refine lv_icmp_ge (tgt := 222) hx hb dX12_leave_216 (by decide) (fun c_100 => ?_) (fun c_100 => ?_)
                                          · skip
                                            refine lv_aload_n hx hb dX12_leave_222 rfl (lv_at hl 0 rfl) ?_
                                            refine gM_16 hx hb htg hown hK hP dX12_leave_223 ?_
                                            refine lv_iload hx hb dX12_leave_226 (lv_at hl 6 rfl) ?_
                                            refine lv_dup2_11 hx hb dX12_leave_228 rfl rfl ?_
                                            refine lM_16 hx hb hK hP (iv_in i_83 (by decide) (by decide)) dX12_leave_229 (fun v_101 ev_101 => ?_)
                                            obtain rfl : v_99 = v_101 := ev_99.trans ev_101.symm
                                            refine lv_iload hx hb dX12_leave_230 (lv_at hl 3 rfl) ?_
                                            refine lv_isub hx hb dX12_leave_232 ?_
                                            refine lv_topi (fun v_102 ev_102 => ?_)
                                            refine sM_16 hx hb hK hP hS hd (iv_in i_83 (by decide) (by decide)) dX12_leave_233 (fun H locs ar_103 ear_103 hP hS => ?_)
                                            have hA_ar_103 : rA ar_103 := rA_put hA_ar_73 ear_103 (iv_any _)
                                            refine lv_aload_n hx hb dX12_leave_234 rfl (lv_at hl 0 rfl) ?_
                                            refine gM_20 hx hb htg hown hK hP dX12_leave_235 ?_
                                            refine lv_iload_n hx hb dX12_leave_238 rfl (lv_at hl 2 rfl) ?_
                                            refine lM_20 hx hb hK hP (iv_in i_2 (by decide) (by decide)) dX12_leave_239 (fun v_104 ev_104 => ?_)
                                            refine lv_iconst (v := 2) hx hb dX12_leave_240 (by decide) ?_
                                            refine my_cut (P := fun R9 a9 Q9 => ∀ (fv_114 : Nat → Int32) (ar_116 : Nat → Nat → Int32) (H : Heap) (locs : List Loc) (ls : Array Slot), rF fv_114 → fM [36] fv_71 fv_114 → rA ar_116 → fA [24] ar_103 ar_116 → wt_fm G9 (fv_114 8) (ar_116 4) → sW ar_116 → vM fv_114 ar_116 → va_P (dC, dI) vwCl (wsM h ad cA fv_114 wd_46 ar_116) H → va_S (aM h ad s.heap.size) s.heap H locs → lv_has ls 10 [(0, .ref h), (1, .int kk), (2, .int v_1), (4, .int r_44), (5, .int x_69), (6, .int x_51), (7, .int x_70)] → W p l e R9 s m a9 below meth c H locs 0 0 Q9 (F0 m 279 ls [])) ?_ (fun hj_121 => ?_)
                                            · intro fv_114 ar_116 H locs ls hF_fv_114 fr_115 hA_ar_116 fa_117 hp_118 hp_119 hp_120 hP hS hl
                                              refine lv_aload_n hx hb dX12_leave_279 rfl (lv_at hl 0 rfl) ?_
                                              refine gM_68 hx hb htg hown hK hP dX12_leave_280 ?_
                                              refine lv_iload hx hb dX12_leave_283 (lv_at hl 6 rfl) ?_
                                              refine lv_iconst (v := 3) hx hb dX12_leave_285 (by decide) ?_
                                              refine sM_68 hx hb hK hP hS hd (iv_in i_83 (by decide) (by decide)) dX12_leave_286 (fun H locs ar_122 ear_122 hP hS => ?_)
                                              have hA_ar_122 : rA ar_122 := rA_put hA_ar_116 ear_122 (iv_any _)
                                              have hp_123 : sW ar_122 := sW_68 hp_119 ear_122 (Or.inr (Or.inr (by have h9 := hp_119 x_70.toNatClampNeg; rw [((fA_call (fA_put (fA_rf [16, 24] _) ear_103 (by decide)) fa_117 (by decide)) 68 rfl)] at h9; rw [← ev_92] at h9; exact h9 (Int.le_trans (by decide) (i_94).1) (Int.le_trans (i_94).2 (by decide)))))
                                              obtain ⟨v_124, ev_124⟩ : ∃ z : Int32, z = x_69 + 1 := ⟨_, rfl⟩
                                              refine lv_iinc (v := v_124) (lv' := [(5, .int v_124), (0, .ref h), (1, .int kk), (2, .int v_1), (4, .int r_44), (6, .int x_51), (7, .int x_70)]) hx hb dX12_leave_287 hl (k := 4) rfl (by rw [ev_124]; rfl) (by decide) rfl (fun ls hl => ?_)
                                              have t_125 : v_124.toInt = x_69.toInt + 1 ∧ 1 ≤ v_124.toInt ∧ v_124.toInt ≤ 2147483647 := iv_addc ev_124 i_88 (by decide) (by decide) (by decide)
                                              exact hj_137 v_124 fv_114 ar_122 _ _ ls (iv_w t_125.2 (by decide) (by decide)) hF_fv_114 (fM_call (fM_rf [36] _) fr_115 (by decide)) hA_ar_122 (fA_put (fA_call (fA_put (fA_rf [16, 24, 68] _) ear_103 (by decide)) fa_117 (by decide)) ear_122 (by decide)) (mF_fr hp_118 (fM_rf [] _) (fA_put (fA_rf [68] _) ear_122 (by decide)) rfl rfl) hp_123 (vM_fr hp_120 (fM_rf [] _) (fA_put (fA_rf [68] _) ear_122 (by decide)) rfl rfl rfl rfl rfl) hP hS (lv_sub hl [1, 2, 3, 4, 0, 5, 6] rfl)
                                            · skip
                                              refine lv_icmp_ne (tgt := 265) hx hb dX12_leave_241 (by decide) (fun c_105 => ?_) (fun c_105 => ?_)
                                              · skip
                                                refine lv_aload_n hx hb dX12_leave_265 rfl (lv_at hl 0 rfl) ?_
                                                refine lv_aload_n hx hb dX12_leave_266 rfl (lv_at hl 0 rfl) ?_
                                                refine gM_36 hx hb htg hown hK hP dX12_leave_267 ?_
                                                refine lv_iload hx hb dX12_leave_270 (lv_at hl 3 rfl) ?_
                                                refine lv_iadd hx hb dX12_leave_272 ?_
                                                refine lv_topi (fun v_106 ev_106 => ?_)
                                                refine va_calli (va_runS (As := [.int v_106]) (rest := [.ref h]) ⟨hx, hb, hml, hown, hts⟩ (m_cut l H.size v_106) (va_cwS 1 hts (gS kw_8_52 kw_8_53 kw_1_15 kw_8_54) rfl rfl rfl (by decide +kernel) ⟨Nat.le_of_ble_eq_true rfl, Nat.le_of_ble_eq_true rfl⟩) ⟨fun a U g mk q => ⟨q.1, q.2⟩, fun U hU hW => ⟨rfl, congrArg Array.size hU⟩⟩ rfl rfl hl.1 rfl (lv_room (Nat.le_of_ble_eq_true rfl)) dX12_leave_273 ⟨Nat.le_of_ble_eq_true rfl, Nat.le_of_ble_eq_true rfl⟩) hS (fun q _ h9 => nM_up hS q h9) (nM_up hS) (fun r_107 u t H1 locs ht _ hw hB _ hk1 hS => ?_)
                                                have hP := my_keepM hP hk1
                                                generalize H1 = H at hP hS ⊢
                                                refine pM_36 hx hb htg hown hK hP hS hd dX12_leave_276 (fun H locs fv_108 efv_108 hP hS => ?_)
                                                have hF_fv_108 : rF fv_108 := rF_put hF_fv_71 efv_108 (iv_any r_107)
                                                exact hj_121 fv_108 ar_103 _ _ ls hF_fv_108 (fM_put (fM_rf [36] _) efv_108 (by decide)) hA_ar_103 (fA_rf [24] _) (mF_fr hp_75 (fM_put (fM_rf [36] _) efv_108 (by decide)) (fA_put (fA_rf [16] _) ear_103 (by decide)) rfl rfl) (sW_fr hp_76 (fA_put (fA_rf [16] _) ear_103 (by decide)) rfl rfl) (vM_fr hp_77 (fM_put (fM_rf [36] _) efv_108 (by decide)) (fA_put (fA_rf [16] _) ear_103 (by decide)) rfl rfl rfl rfl rfl) hP hS (lv_sub hl [0, 1, 2, 3, 4, 5, 6] rfl)
                                              · skip
                                                have i_109 : 2 ≤ v_104.toInt ∧ v_104.toInt ≤ 2 := iv_eq1 (⟨by decide, by decide⟩ : (2 : Int) ≤ (2 : Int32).toInt ∧ (2 : Int32).toInt ≤ 2) c_105
                                                refine lv_aload_n hx hb dX12_leave_244 rfl (lv_at hl 0 rfl) ?_
                                                refine gM_24 hx hb htg hown hK hP dX12_leave_245 ?_
                                                refine lv_iload_n hx hb dX12_leave_248 rfl (lv_at hl 2 rfl) ?_
                                                refine lv_aload_n hx hb dX12_leave_249 rfl (lv_at hl 0 rfl) ?_
                                                refine gM_24 hx hb htg hown hK hP dX12_leave_250 ?_
                                                refine lv_iload_n hx hb dX12_leave_253 rfl (lv_at hl 2 rfl) ?_
                                                refine lM_24 hx hb hK hP (iv_in i_2 (by decide) (by decide)) dX12_leave_254 (fun v_110 ev_110 => ?_)
                                                refine lv_iload hx hb dX12_leave_255 (lv_at hl 3 rfl) ?_
                                                refine lv_iadd hx hb dX12_leave_257 ?_
                                                refine lv_topi (fun v_111 ev_111 => ?_)
                                                refine va_calli (va_runS (As := [.int v_111]) (rest := [.int v_1, .ref (ad 24)]) ⟨hx, hb, hml, hown, hts⟩ (m_cut l H.size v_111) (va_cwS 1 hts (gS kw_8_52 kw_8_53 kw_1_15 kw_8_54) rfl rfl rfl (by decide +kernel) ⟨Nat.le_of_ble_eq_true rfl, Nat.le_of_ble_eq_true rfl⟩) ⟨fun a U g mk q => ⟨q.1, q.2⟩, fun U hU hW => ⟨rfl, congrArg Array.size hU⟩⟩ rfl rfl hl.1 rfl (lv_room (Nat.le_of_ble_eq_true rfl)) dX12_leave_258 ⟨Nat.le_of_ble_eq_true rfl, Nat.le_of_ble_eq_true rfl⟩) hS (fun q _ h9 => nM_up hS q h9) (nM_up hS) (fun r_112 u t H1 locs ht _ hw hB _ hk1 hS => ?_)
                                                have hP := my_keepM hP hk1
                                                generalize H1 = H at hP hS ⊢
                                                refine sM_24 hx hb hK hP hS hd (iv_in i_2 (by decide) (by decide)) dX12_leave_261 (fun H locs ar_113 ear_113 hP hS => ?_)
                                                have hA_ar_113 : rA ar_113 := rA_put hA_ar_103 ear_113 (iv_any _)
                                                refine lv_goto (tgt := 279) hx hb dX12_leave_262 (by decide) ?_
                                                exact hj_121 fv_71 ar_113 _ _ ls hF_fv_71 (fM_rf [36] _) hA_ar_113 (fA_put (fA_rf [24] _) ear_113 (by decide)) (mF_fr hp_75 (fM_rf [] _) (fA_put (fA_put (fA_rf [16, 24] _) ear_103 (by decide)) ear_113 (by decide)) rfl rfl) (sW_fr hp_76 (fA_put (fA_put (fA_rf [16, 24] _) ear_103 (by decide)) ear_113 (by decide)) rfl rfl) (vM_fr hp_77 (fM_rf [] _) (fA_put (fA_put (fA_rf [16, 24] _) ear_103 (by decide)) ear_113 (by decide)) rfl rfl rfl rfl rfl) hP hS (lv_sub hl [0, 1, 2, 3, 4, 5, 6] rfl)
                                          · skip
                                            have i_127 : (-2147483648) ≤ v_99.toInt ∧ v_99.toInt ≤ 2147483646 := iv_lt1 (iv_any v_99) (iv_any r_44) (Int32.not_le.mp c_100)
                                            have i_128 : (-2147483647) ≤ r_44.toInt ∧ r_44.toInt ≤ 2147483647 := iv_lt2 (iv_any v_99) (iv_any r_44) (Int32.not_le.mp c_100)
                                            refine lv_goto (tgt := 290) hx hb dX12_leave_219 (by decide) ?_
                                            exact hj_137 x_69 fv_71 ar_73 _ _ ls (iv_w i_88 (by decide) (by decide)) hF_fv_71 (fM_rf [36] _) hA_ar_73 (fA_rf [16, 24, 68] _) hp_75 hp_76 hp_77 hP hS (lv_sub hl [0, 1, 2, 3, 4, 5, 6] rfl)
                        · skip
                          have z_145 : (0 : Int32).toInt = 0 := by decide
                          exact hj_80 41 x_50 0 fv_52 ar_54 _ _ ls (by first | decide | omega) (iv_w i_67 (by decide) (by decide)) (iv_w (⟨by decide, by decide⟩ : (0 : Int) ≤ (0 : Int32).toInt ∧ (0 : Int32).toInt ≤ 0) (by decide) (by decide)) hF_fv_52 (fM_rf [36] _) hA_ar_54 (fA_rf [16, 24, 68] _) hp_56 hp_57 hp_58 hP hS (lv_sub hl [1, 2, 3, 4, 5, 6, 0] rfl)
              · skip
                have z_334 : (0 : Int32).toInt = 0 := by decide
                exact hj_61 721 0 0 fv_45 ar_47 _ _ ls (by first | decide | omega) (iv_w (⟨by decide, by decide⟩ : (0 : Int) ≤ (0 : Int32).toInt ∧ (0 : Int32).toInt ≤ 0) (by decide) (by decide)) (iv_w (⟨by decide, by decide⟩ : (0 : Int) ≤ (0 : Int32).toInt ∧ (0 : Int32).toInt ≤ 0) (by decide) (by decide)) hF_fv_45 (fM_rf [36] _) hA_ar_47 (fA_rf [16, 24, 68] _) (mF_fr p_16 (fM_call (fM_put (fM_call (fM_call (fM_rf [36, 66] _) fr_30 (by decide)) fr_38 (by decide)) efv_42 (by decide)) fr_48 (by decide)) (fA_call (fA_call (fA_call (fA_rf [64, 65] _) fa_31 (by decide)) fa_39 (by decide)) fa_49 (by decide)) rfl rfl) (sW_fr hp_sW (fA_call (fA_call (fA_call (fA_call (fA_put (fA_rf [4, 64, 65, 80] _) ear_3 (by decide)) fa_21 (by decide)) fa_31 (by decide)) fa_39 (by decide)) fa_49 (by decide)) rfl rfl) (vM_fr hp_vM (fM_call (fM_put (fM_call (fM_call (fM_call (fM_rf [8, 36, 66] _) fr_20 (by decide)) fr_30 (by decide)) fr_38 (by decide)) efv_42 (by decide)) fr_48 (by decide)) (fA_call (fA_call (fA_call (fA_call (fA_put (fA_rf [4, 64, 65, 80] _) ear_3 (by decide)) fa_21 (by decide)) fa_31 (by decide)) fa_39 (by decide)) fa_49 (by decide)) rfl rfl rfl rfl rfl) hP hS (lv_sub hl [5, 6, 4, 2, 1, 0] rfl)
            · skip
              have i_335 : (-2147483648) ≤ (fv 36).toInt ∧ (fv 36).toInt ≤ 2147483646 := iv_lt1 (iv_any (fv 36)) (iv_any r_34) (Int32.not_le.mp c_40)
              have i_336 : (-2147483647) ≤ r_34.toInt ∧ r_34.toInt ≤ 2147483647 := iv_lt2 (iv_any (fv 36)) (iv_any r_34) (Int32.not_le.mp c_40)
              exact W.vret hx hb hr (fun t ht hW => ⟨⟨(fv_35, wd_36, ar_37), rfl, ⟨hF_fv_35, hA_ar_37, (fM_call (fM_call (fM_call (fM_rf [8, 36, 66] _) fr_20 (by decide)) fr_30 (by decide)) fr_38 (by decide)), (fA_call (fA_call (fA_call (fA_put (fA_rf [4, 16, 24, 64, 65, 68, 75, 76, 77, 78, 79, 80] _) ear_3 (by decide)) fa_21 (by decide)) fa_31 (by decide)) fa_39 (by decide)), (sW_fr hp_sW (fA_call (fA_call (fA_call (fA_put (fA_rf [4, 64, 65, 80] _) ear_3 (by decide)) fa_21 (by decide)) fa_31 (by decide)) fa_39 (by decide)) rfl rfl), (mF_fr p_16 (fM_call (fM_call (fM_rf [66] _) fr_30 (by decide)) fr_38 (by decide)) (fA_call (fA_call (fA_rf [64, 65] _) fa_31 (by decide)) fa_39 (by decide)) rfl rfl), trivial⟩, ⟨by rw [ht]; exact hP, va_K.moved hW.alike hK⟩⟩, hS.F ht⟩) hS.2.2 dX12_leave_99
          · skip
            have i_337 : 0 ≤ r_26.toInt ∧ r_26.toInt ≤ 0 := iv_eq1 (⟨by decide, by decide⟩ : (0 : Int) ≤ (0 : Int32).toInt ∧ (0 : Int32).toInt ≤ 0) c_32
            exact W.vret hx hb hr (fun t ht hW => ⟨⟨(fv_27, wd_28, ar_29), rfl, ⟨hF_fv_27, hA_ar_29, (fM_call (fM_call (fM_rf [8, 36, 66] _) fr_20 (by decide)) fr_30 (by decide)), (fA_call (fA_call (fA_put (fA_rf [4, 16, 24, 64, 65, 68, 75, 76, 77, 78, 79, 80] _) ear_3 (by decide)) fa_21 (by decide)) fa_31 (by decide)), (sW_fr hp_sW (fA_call (fA_call (fA_put (fA_rf [4, 64, 65, 80] _) ear_3 (by decide)) fa_21 (by decide)) fa_31 (by decide)) rfl rfl), (mF_fr p_16 (fM_call (fM_rf [66] _) fr_30 (by decide)) (fA_call (fA_rf [64, 65] _) fa_31 (by decide)) rfl rfl), trivial⟩, ⟨by rw [ht]; exact hP, va_K.moved hW.alike hK⟩⟩, hS.F ht⟩) hS.2.2 dX12_leave_76
set_option maxHeartbeats 4000000 in
set_option maxRecDepth 100000 in
theorem m_step (l : Launch) (dC : Nat → ClassId) (dI : Nat → Nat → Nat) (sz h : Nat) (ad : Nat → Nat) (cA : Nat → ClassId) (hd : dM h ad) (fv : Nat → Int32) (wd : Int64) (ar : Nat → Nat → Int32) (hF_fv : rF fv) (hA_ar : rA ar) (G9 : Nat → Int) (hp_sW : sW ar) (hp_vM : vM fv ar) (hp_mF : wt_fm G9 (fv 8) (ar 4)) : Met l yX12_step (.code yX12_step cX12_step 2 none :: lw_good) ({ frames := 8, cells := 0, slots := 0, locals := 180 }) (va_Pc [.ref h] (prM dC dI h ad cA fv wd ar sz)) (va_Qv (fun (u : mS) => rF u.1 ∧ rA u.2.2 ∧ fM [8, 36, 66] fv u.1 ∧ fA [4, 15, 16, 18, 24, 64, 65, 68, 69, 70, 71, 72, 74, 75, 76, 77, 78, 79, 80, 82] ar u.2.2 ∧ (sW u.2.2) ∧ (wt_fm G9 (u.1 8) (u.2.2 4)) ∧ True) (enM dC dI h ad cA) (aM h ad sz)) 0 0 (aM h ad sz) := by
  refine Met.ofW (cc := cX12_step) (maxL := 2) (ret := none) (by decide) rfl ?_
  intro p e s m args below meth c s₁ B hml hv
  obtain ⟨rfl, hsz, hP, hK⟩ := hv
  have hx := B.exec
  have hb := B.bytes
  have hr := B.returns
  have hts := atoms_spec (ws := (.code yX12_step cX12_step 2 none :: lw_good)) B.pre
  have htg : ∀ w ∈ lw_good, w.before _ s = true := fun w hw => hts w (List.mem_cons_of_mem _ hw)
  have hown : s.vm.findClass RX12 = some m.cls := findClass_of_methodNamed B.named
  have hlocks := B.notSynchronized
  subst hsz
  have hS : va_S (aM h ad s.heap.size) s.heap s.heap [] := va_S.rf
  have hl := lv_entry ([.ref h]) (n := 2) (Nat.le_of_ble_eq_true rfl)
  rw [lg_entry_eq]
  generalize (lg_sl ([.ref h]) ++ List.replicate (2 - (lg_sl ([.ref h])).length) Slot.unset).toArray = ls at hl ⊢
  have hl : lv_has ls 2 [(0, .ref h)] := hl
  refine lv_iconst (v := 0) hx hb dX12_step_0 (by decide) ?_
  refine lv_istore_n (lv' := [(1, .int 0), (0, .ref h)]) hx hb dX12_step_1 rfl hl (by decide) rfl (fun ls hl => ?_)
  refine my_cut (P := fun R9 a9 Q9 => ∀ (n_7 : Nat) (x_1 : Int32) (ar_2 : Nat → Nat → Int32) (H : Heap) (locs : List Loc) (ls : Array Slot), 20 - x_1.toInt < (n_7 : Int) → (0 ≤ x_1.toInt ∧ x_1.toInt ≤ 20) → rA ar_2 → fA [77] ar ar_2 → wt_fm G9 (fv 8) (ar_2 4) → sW ar_2 → vM fv ar_2 → va_P (dC, dI) vwCl (wsM h ad cA fv wd ar_2) H → va_S (aM h ad s.heap.size) s.heap H locs → lv_has ls 2 [(0, .ref h), (1, .int x_1)] → W p l e R9 s m a9 below meth c H locs 0 0 Q9 (F0 m 2 ls [])) ?_ (fun hj_9 => ?_)
  · intro n_7
    induction n_7 with
    | zero => intro x_1 ar_2 H locs ls fu_8 i_x_1 hA_ar_2 fa_3 hp_4 hp_5 hp_6; exfalso; omega
    | succ n_7 ih_7 =>
      intro x_1 ar_2 H locs ls fu_8 i_x_1 hA_ar_2 fa_3 hp_4 hp_5 hp_6 hP hS hl
      refine lv_iload_n hx hb dX12_step_2 rfl (lv_at hl 1 rfl) ?_
      refine lv_aload_n hx hb dX12_step_3 rfl (lv_at hl 0 rfl) ?_
      refine gM_34 hx hb htg hown hK hP dX12_step_4 ?_
      have i_10 : 0 ≤ (fv 34).toInt ∧ (fv 34).toInt ≤ 20 := hF_fv 34
      refine lv_icmp_ge (tgt := 36) hx hb dX12_step_7 (by decide) (fun c_11 => ?_) (fun c_11 => ?_)
      · skip
        refine lv_iconst (v := 0) hx hb dX12_step_36 (by decide) ?_
        refine lv_istore_n (lv' := [(1, .int 0), (0, .ref h)]) hx hb dX12_step_37 rfl hl (by decide) rfl (fun ls hl => ?_)
        refine my_cut (P := fun R9 a9 Q9 => ∀ (n_37 : Nat) (x_28 : Int32) (fv_29 : Nat → Int32) (ar_31 : Nat → Nat → Int32) (wd_33 : Int64) (H : Heap) (locs : List Loc) (ls : Array Slot), 40 - x_28.toInt < (n_37 : Int) → (0 ≤ x_28.toInt ∧ x_28.toInt ≤ 40) → rF fv_29 → fM [8] fv fv_29 → rA ar_31 → fA [4, 15, 18, 68, 69, 70, 71, 72, 74, 82] ar_2 ar_31 → wt_fm G9 (fv_29 8) (ar_31 4) → sW ar_31 → vM fv_29 ar_31 → va_P (dC, dI) vwCl (wsM h ad cA fv_29 wd_33 ar_31) H → va_S (aM h ad s.heap.size) s.heap H locs → lv_has ls 2 [(0, .ref h), (1, .int x_28)] → W p l e R9 s m a9 below meth c H locs 0 0 Q9 (F0 m 38 ls [])) ?_ (fun hj_39 => ?_)
        · intro n_37
          induction n_37 with
          | zero => intro x_28 fv_29 ar_31 wd_33 H locs ls fu_38 i_x_28 hF_fv_29 fr_30 hA_ar_31 fa_32 hp_34 hp_35 hp_36; exfalso; omega
          | succ n_37 ih_37 =>
            intro x_28 fv_29 ar_31 wd_33 H locs ls fu_38 i_x_28 hF_fv_29 fr_30 hA_ar_31 fa_32 hp_34 hp_35 hp_36 hP hS hl
            refine lv_iload_n hx hb dX12_step_38 rfl (lv_at hl 1 rfl) ?_
            refine lv_aload_n hx hb dX12_step_39 rfl (lv_at hl 0 rfl) ?_
            refine gM_32 hx hb htg hown hK hP dX12_step_40 ?_
            refine my_ti (y := fv 32) ((fr_30 32 rfl)) ?_
            have i_40 : 0 ≤ (fv 32).toInt ∧ (fv 32).toInt ≤ 40 := hF_fv 32
            refine lv_icmp_ge (tgt := 116) hx hb dX12_step_43 (by decide) (fun c_41 => ?_) (fun c_41 => ?_)
            · skip
              refine lv_iconst (v := 0) hx hb dX12_step_116 (by decide) ?_
              refine lv_istore_n (lv' := [(1, .int 0), (0, .ref h)]) hx hb dX12_step_117 rfl hl (by decide) rfl (fun ls hl => ?_)
              refine my_cut (P := fun R9 a9 Q9 => ∀ (n_91 : Nat) (x_82 : Int32) (fv_83 : Nat → Int32) (ar_85 : Nat → Nat → Int32) (wd_87 : Int64) (H : Heap) (locs : List Loc) (ls : Array Slot), 40 - x_82.toInt < (n_91 : Int) → (0 ≤ x_82.toInt ∧ x_82.toInt ≤ 40) → rF fv_83 → fM [8] fv_29 fv_83 → rA ar_85 → fA [4, 15, 18, 68, 69, 70, 71, 72, 74, 82] ar_31 ar_85 → wt_fm G9 (fv_83 8) (ar_85 4) → sW ar_85 → vM fv_83 ar_85 → va_P (dC, dI) vwCl (wsM h ad cA fv_83 wd_87 ar_85) H → va_S (aM h ad s.heap.size) s.heap H locs → lv_has ls 2 [(0, .ref h), (1, .int x_82)] → W p l e R9 s m a9 below meth c H locs 0 0 Q9 (F0 m 118 ls [])) ?_ (fun hj_93 => ?_)
              · intro n_91
                induction n_91 with
                | zero => intro x_82 fv_83 ar_85 wd_87 H locs ls fu_92 i_x_82 hF_fv_83 fr_84 hA_ar_85 fa_86 hp_88 hp_89 hp_90; exfalso; omega
                | succ n_91 ih_91 =>
                  intro x_82 fv_83 ar_85 wd_87 H locs ls fu_92 i_x_82 hF_fv_83 fr_84 hA_ar_85 fa_86 hp_88 hp_89 hp_90 hP hS hl
                  refine lv_iload_n hx hb dX12_step_118 rfl (lv_at hl 1 rfl) ?_
                  refine lv_aload_n hx hb dX12_step_119 rfl (lv_at hl 0 rfl) ?_
                  refine gM_32 hx hb htg hown hK hP dX12_step_120 ?_
                  refine my_ti (y := fv 32) ((fr_84 32 rfl).trans ((fr_30 32 rfl))) ?_
                  refine lv_icmp_ge (tgt := 204) hx hb dX12_step_123 (by decide) (fun c_94 => ?_) (fun c_94 => ?_)
                  · skip
                    refine lv_iconst (v := 0) hx hb dX12_step_204 (by decide) ?_
                    refine lv_istore_n (lv' := [(1, .int 0), (0, .ref h)]) hx hb dX12_step_205 rfl hl (by decide) rfl (fun ls hl => ?_)
                    refine my_cut (P := fun R9 a9 Q9 => ∀ (n_165 : Nat) (x_156 : Int32) (fv_157 : Nat → Int32) (ar_159 : Nat → Nat → Int32) (wd_161 : Int64) (H : Heap) (locs : List Loc) (ls : Array Slot), 80 - x_156.toInt < (n_165 : Int) → (0 ≤ x_156.toInt ∧ x_156.toInt ≤ 80) → rF fv_157 → fM [8, 36, 66] fv_83 fv_157 → rA ar_159 → fA [4, 16, 24, 64, 65, 68, 75, 76, 77, 78, 79, 80] ar_85 ar_159 → wt_fm G9 (fv_157 8) (ar_159 4) → sW ar_159 → vM fv_157 ar_159 → va_P (dC, dI) vwCl (wsM h ad cA fv_157 wd_161 ar_159) H → va_S (aM h ad s.heap.size) s.heap H locs → lv_has ls 2 [(0, .ref h), (1, .int x_156)] → W p l e R9 s m a9 below meth c H locs 0 0 Q9 (F0 m 206 ls [])) ?_ (fun hj_167 => ?_)
                    · intro n_165
                      induction n_165 with
                      | zero => intro x_156 fv_157 ar_159 wd_161 H locs ls fu_166 i_x_156 hF_fv_157 fr_158 hA_ar_159 fa_160 hp_162 hp_163 hp_164; exfalso; omega
                      | succ n_165 ih_165 =>
                        intro x_156 fv_157 ar_159 wd_161 H locs ls fu_166 i_x_156 hF_fv_157 fr_158 hA_ar_159 fa_160 hp_162 hp_163 hp_164 hP hS hl
                        refine lv_iload_n hx hb dX12_step_206 rfl (lv_at hl 1 rfl) ?_
                        refine lv_aload_n hx hb dX12_step_207 rfl (lv_at hl 0 rfl) ?_
                        refine gM_35 hx hb htg hown hK hP dX12_step_208 ?_
                        refine my_ti (y := fv 35) ((fr_158 35 rfl).trans ((fr_84 35 rfl).trans ((fr_30 35 rfl)))) ?_
                        have i_168 : 0 ≤ (fv 35).toInt ∧ (fv 35).toInt ≤ 80 := hF_fv 35
                        refine lv_icmp_ge (tgt := 246) hx hb dX12_step_211 (by decide) (fun c_169 => ?_) (fun c_169 => ?_)
                        · skip
                          refine lv_iconst (v := 0) hx hb dX12_step_246 (by decide) ?_
                          refine lv_istore_n (lv' := [(1, .int 0), (0, .ref h)]) hx hb dX12_step_247 rfl hl (by decide) rfl (fun ls hl => ?_)
                          refine my_cut (P := fun R9 a9 Q9 => ∀ (n_215 : Nat) (x_206 : Int32) (fv_207 : Nat → Int32) (ar_209 : Nat → Nat → Int32) (wd_211 : Int64) (H : Heap) (locs : List Loc) (ls : Array Slot), 40 - x_206.toInt < (n_215 : Int) → (0 ≤ x_206.toInt ∧ x_206.toInt ≤ 40) → rF fv_207 → fM [8] fv_157 fv_207 → rA ar_209 → fA [4, 15, 18, 68, 69, 70, 71, 72, 74, 82] ar_159 ar_209 → wt_fm G9 (fv_207 8) (ar_209 4) → sW ar_209 → vM fv_207 ar_209 → va_P (dC, dI) vwCl (wsM h ad cA fv_207 wd_211 ar_209) H → va_S (aM h ad s.heap.size) s.heap H locs → lv_has ls 2 [(0, .ref h), (1, .int x_206)] → W p l e R9 s m a9 below meth c H locs 0 0 Q9 (F0 m 248 ls [])) ?_ (fun hj_217 => ?_)
                          · intro n_215
                            induction n_215 with
                            | zero => intro x_206 fv_207 ar_209 wd_211 H locs ls fu_216 i_x_206 hF_fv_207 fr_208 hA_ar_209 fa_210 hp_212 hp_213 hp_214; exfalso; omega
                            | succ n_215 ih_215 =>
                              intro x_206 fv_207 ar_209 wd_211 H locs ls fu_216 i_x_206 hF_fv_207 fr_208 hA_ar_209 fa_210 hp_212 hp_213 hp_214 hP hS hl
                              refine lv_iload_n hx hb dX12_step_248 rfl (lv_at hl 1 rfl) ?_
                              refine lv_aload_n hx hb dX12_step_249 rfl (lv_at hl 0 rfl) ?_
                              refine gM_32 hx hb htg hown hK hP dX12_step_250 ?_
                              refine my_ti (y := fv 32) ((fr_208 32 rfl).trans ((fr_158 32 rfl).trans ((fr_84 32 rfl).trans ((fr_30 32 rfl))))) ?_
                              refine lv_icmp_ge (tgt := 304) hx hb dX12_step_253 (by decide) (fun c_218 => ?_) (fun c_218 => ?_)
                              · skip
                                exact W.vret hx hb hr (fun t ht hW => ⟨⟨(fv_207, wd_211, ar_209), rfl, ⟨hF_fv_207, hA_ar_209, (fM_call (fM_call (fM_call (fM_call (fM_rf [8, 36, 66] _) fr_30 (by decide)) fr_84 (by decide)) fr_158 (by decide)) fr_208 (by decide)), (fA_call (fA_call (fA_call (fA_call (fA_call (fA_rf [4, 15, 16, 18, 24, 64, 65, 68, 69, 70, 71, 72, 74, 75, 76, 77, 78, 79, 80, 82] _) fa_3 (by decide)) fa_32 (by decide)) fa_86 (by decide)) fa_160 (by decide)) fa_210 (by decide)), hp_213, hp_212, trivial⟩, ⟨by rw [ht]; exact hP, va_K.moved hW.alike hK⟩⟩, hS.F ht⟩) hS.2.2 dX12_step_304
                              · skip
                                have i_219 : 0 ≤ x_206.toInt ∧ x_206.toInt ≤ 39 := iv_lt1 i_x_206 i_40 (Int32.not_le.mp c_218)
                                have i_220 : 1 ≤ (fv 32).toInt ∧ (fv 32).toInt ≤ 40 := iv_lt2 i_x_206 i_40 (Int32.not_le.mp c_218)
                                refine lv_aload_n hx hb dX12_step_256 rfl (lv_at hl 0 rfl) ?_
                                refine gM_68 hx hb htg hown hK hP dX12_step_257 ?_
                                refine lv_iload_n hx hb dX12_step_260 rfl (lv_at hl 1 rfl) ?_
                                refine lM_68 hx hb hK hP (iv_in i_219 (by decide) (by decide)) dX12_step_261 (fun v_221 ev_221 => ?_)
                                refine lv_iconst (v := 2) hx hb dX12_step_262 (by decide) ?_
                                refine my_cut (P := fun R9 a9 Q9 => ∀ (fv_242 : Nat → Int32) (ar_244 : Nat → Nat → Int32) (wd_246 : Int64) (H : Heap) (locs : List Loc) (ls : Array Slot), rF fv_242 → fM [8] fv_207 fv_242 → rA ar_244 → fA [4, 15, 18, 68, 69, 70, 71, 72, 74, 82] ar_209 ar_244 → wt_fm G9 (fv_242 8) (ar_244 4) → sW ar_244 → vM fv_242 ar_244 → va_P (dC, dI) vwCl (wsM h ad cA fv_242 wd_246 ar_244) H → va_S (aM h ad s.heap.size) s.heap H locs → lv_has ls 2 [(0, .ref h), (1, .int x_206)] → W p l e R9 s m a9 below meth c H locs 0 0 Q9 (F0 m 298 ls [])) ?_ (fun hj_250 => ?_)
                                · intro fv_242 ar_244 wd_246 H locs ls hF_fv_242 fr_243 hA_ar_244 fa_245 hp_247 hp_248 hp_249 hP hS hl
                                  obtain ⟨v_251, ev_251⟩ : ∃ z : Int32, z = x_206 + 1 := ⟨_, rfl⟩
                                  refine lv_iinc (v := v_251) (lv' := [(1, .int v_251), (0, .ref h)]) hx hb dX12_step_298 hl (k := 1) rfl (by rw [ev_251]; rfl) (by decide) rfl (fun ls hl => ?_)
                                  have t_252 : v_251.toInt = x_206.toInt + 1 ∧ 1 ≤ v_251.toInt ∧ v_251.toInt ≤ 40 := iv_addc ev_251 i_219 (by decide) (by decide) (by decide)
                                  refine lv_goto (tgt := 248) hx hb dX12_step_301 (by decide) ?_
                                  exact ih_215 v_251 fv_242 ar_244 wd_246 _ _ ls (by omega) (iv_w t_252.2 (by decide) (by decide)) hF_fv_242 (fM_call (fM_call (fM_rf [8] _) fr_208 (by decide)) fr_243 (by decide)) hA_ar_244 (fA_call (fA_call (fA_rf [4, 15, 18, 68, 69, 70, 71, 72, 74, 82] _) fa_210 (by decide)) fa_245 (by decide)) hp_247 hp_248 hp_249 hP hS (lv_sub hl [1, 0] rfl)
                                · skip
                                  refine lv_icmp_ne (tgt := 298) hx hb dX12_step_263 (by decide) (fun c_222 => ?_) (fun c_222 => ?_)
                                  · skip
                                    exact hj_250 fv_207 ar_209 wd_211 _ _ ls hF_fv_207 (fM_rf [8] _) hA_ar_209 (fA_rf [4, 15, 18, 68, 69, 70, 71, 72, 74, 82] _) hp_212 hp_213 hp_214 hP hS (lv_sub hl [0, 1] rfl)
                                  · skip
                                    have i_223 : 2 ≤ v_221.toInt ∧ v_221.toInt ≤ 2 := iv_eq1 (⟨by decide, by decide⟩ : (2 : Int) ≤ (2 : Int32).toInt ∧ (2 : Int32).toInt ≤ 2) c_222
                                    refine lv_aload_n hx hb dX12_step_266 rfl (lv_at hl 0 rfl) ?_
                                    refine gM_28 hx hb htg hown hK hP dX12_step_267 ?_
                                    refine lv_aload_n hx hb dX12_step_270 rfl (lv_at hl 0 rfl) ?_
                                    refine gM_71 hx hb htg hown hK hP dX12_step_271 ?_
                                    refine lv_iload_n hx hb dX12_step_274 rfl (lv_at hl 1 rfl) ?_
                                    refine lM_71 hx hb hK hP (iv_in i_219 (by decide) (by decide)) dX12_step_275 (fun v_224 ev_224 => ?_)
                                    have i_225 : (-1) ≤ v_224.toInt ∧ v_224.toInt ≤ 79 := ev_224 ▸ hA_ar_209 71 _
                                    have i_226 : 0 ≤ v_224.toInt ∧ v_224.toInt ≤ 79 := ⟨by have h9 := hp_213 x_206.toNatClampNeg; rw [← ev_221, ← ev_224] at h9; exact h9 (Int.le_trans (by decide) (i_223).1) (Int.le_trans (i_223).2 (by decide)), (i_225).2⟩
                                    refine lM_28 hx hb hK hP (iv_in i_226 (by decide) (by decide)) dX12_step_276 (fun v_227 ev_227 => ?_)
                                    refine lv_aload_n hx hb dX12_step_277 rfl (lv_at hl 0 rfl) ?_
                                    refine gM_85 hx hb htg hown hK hP dX12_step_278 ?_
                                    refine my_ti (y := fv 85) ((fr_208 85 rfl).trans ((fr_158 85 rfl).trans ((fr_84 85 rfl).trans ((fr_30 85 rfl))))) ?_
                                    have i_228 : 0 ≤ (fv 85).toInt ∧ (fv 85).toInt ≤ 840 := hF_fv 85
                                    refine lv_icmp_eq (tgt := 287) hx hb dX12_step_281 (by decide) (fun c_229 => ?_) (fun c_229 => ?_)
                                    · skip
                                      have i_230 : 0 ≤ v_227.toInt ∧ v_227.toInt ≤ 840 := iv_eq1 i_228 c_229
                                      refine lv_aload_n hx hb dX12_step_287 rfl (lv_at hl 0 rfl) ?_
                                      refine lv_iload_n hx hb dX12_step_288 rfl (lv_at hl 1 rfl) ?_
                                      refine lv_aload_n hx hb dX12_step_289 rfl (lv_at hl 0 rfl) ?_
                                      refine gM_85 hx hb htg hown hK hP dX12_step_290 ?_
                                      refine my_ti (y := fv 85) ((fr_208 85 rfl).trans ((fr_158 85 rfl).trans ((fr_84 85 rfl).trans ((fr_30 85 rfl))))) ?_
                                      refine lv_iconst (v := 1) hx hb dX12_step_293 (by decide) ?_
                                      refine lv_iadd hx hb dX12_step_294 ?_
                                      refine lv_topi (fun v_231 ev_231 => ?_)
                                      have t_232 : v_231.toInt = (fv 85).toInt + 1 ∧ 1 ≤ v_231.toInt ∧ v_231.toInt ≤ 841 := iv_addc ev_231 i_228 (by decide) (by decide) (by decide)
                                      refine va_callv (va_runV (As := [.int x_206, .int v_231]) (rest := []) ⟨hx, hb, hml, hown, hts⟩ (m_choose l dC dI H.size h ad cA hd fv_207 wd_211 ar_209 hF_fv_207 hA_ar_209 G9 x_206 v_231 i_219 hp_213 hp_212) (cwV 2 hts (gV kw_8_188 kw_8_190 kw_p_87 kw_1_15 kw_8_191) rfl rfl rfl (by decide +kernel) ⟨Nat.le_of_ble_eq_true rfl, Nat.le_of_ble_eq_true rfl⟩) ⟨fun a U g mk q => ⟨q.1, q.2.1, q.2.2.1, va_K.moved (u := U) (U := U.calling g mk a) (Vm.Alike.refl U.vm) q.2.2.2⟩, va_recv hK hP (ci := 12) (q0 := 0) rfl rfl, fun U hU hW => ⟨rfl, by rw [hU], by rw [hU]; exact hP, va_K.moved hW.alike hK⟩⟩ rfl rfl hl.1 rfl (lv_room (Nat.le_of_ble_eq_true rfl)) dX12_step_295 ⟨Nat.le_of_ble_eq_true rfl, Nat.le_of_ble_eq_true rfl⟩) hS (fun q _ h9 => aM_up hS q h9) (aM_up hS) (fun u t H1 locs ht _ hw hB _ hk1 hS => ?_)
                                      obtain ⟨fv_237, wd_238, ar_239⟩ := u
                                      obtain ⟨hF_fv_237, hA_ar_239, fr_240, fa_241, p_235, p_236, -⟩ := hw
                                      have hP : va_P (dC, dI) vwCl (wsM h ad cA fv_237 wd_238 ar_239) H1 := by have h9 := hB.1; rw [ht] at h9; exact h9
                                      have fr_240 : fM [8] fv_207 fv_237 := fr_240
                                      have fa_241 : fA [4, 15, 18, 68, 69, 70, 71, 72, 74, 82] ar_209 ar_239 := fa_241
                                      have p_235 : sW ar_239 := p_235
                                      have p_236 : wt_fm G9 (fv_237 8) (ar_239 4) := p_236
                                      generalize H1 = H at hP hS ⊢
                                      exact hj_250 fv_237 ar_239 wd_238 _ _ ls hF_fv_237 (fM_call (fM_rf [8] _) fr_240 (by decide)) hA_ar_239 (fA_call (fA_rf [4, 15, 18, 68, 69, 70, 71, 72, 74, 82] _) fa_241 (by decide)) p_236 p_235 (vM_fr hp_214 (fM_call (fM_rf [8] _) fr_240 (by decide)) (fA_call (fA_rf [4, 15, 18, 68, 69, 70, 71, 72, 74, 82] _) fa_241 (by decide)) rfl rfl rfl rfl rfl) hP hS (lv_sub hl [0, 1] rfl)
                                    · skip
                                      refine lv_goto (tgt := 298) hx hb dX12_step_284 (by decide) ?_
                                      exact hj_250 fv_207 ar_209 wd_211 _ _ ls hF_fv_207 (fM_rf [8] _) hA_ar_209 (fA_rf [4, 15, 18, 68, 69, 70, 71, 72, 74, 82] _) hp_212 hp_213 hp_214 hP hS (lv_sub hl [0, 1] rfl)
                          · skip
                            have z_254 : (0 : Int32).toInt = 0 := by decide
                            exact hj_217 41 0 fv_157 ar_159 wd_161 _ _ ls (by first | decide | omega) (iv_w (⟨by decide, by decide⟩ : (0 : Int) ≤ (0 : Int32).toInt ∧ (0 : Int32).toInt ≤ 0) (by decide) (by decide)) hF_fv_157 (fM_rf [8] _) hA_ar_159 (fA_rf [4, 15, 18, 68, 69, 70, 71, 72, 74, 82] _) hp_162 hp_163 hp_164 hP hS (lv_sub hl [1, 0] rfl)
                        · skip
                          have i_170 : 0 ≤ x_156.toInt ∧ x_156.toInt ≤ 79 := iv_lt1 i_x_156 i_168 (Int32.not_le.mp c_169)
                          have i_171 : 1 ≤ (fv 35).toInt ∧ (fv 35).toInt ≤ 80 := iv_lt2 i_x_156 i_168 (Int32.not_le.mp c_169)
                          refine lv_aload_n hx hb dX12_step_214 rfl (lv_at hl 0 rfl) ?_
                          refine gM_28 hx hb htg hown hK hP dX12_step_215 ?_
                          refine lv_iload_n hx hb dX12_step_218 rfl (lv_at hl 1 rfl) ?_
                          refine lM_28 hx hb hK hP (iv_in i_170 (by decide) (by decide)) dX12_step_219 (fun v_172 ev_172 => ?_)
                          refine lv_aload_n hx hb dX12_step_220 rfl (lv_at hl 0 rfl) ?_
                          refine gM_85 hx hb htg hown hK hP dX12_step_221 ?_
                          refine my_ti (y := fv 85) ((fr_158 85 rfl).trans ((fr_84 85 rfl).trans ((fr_30 85 rfl)))) ?_
                          have i_173 : 0 ≤ (fv 85).toInt ∧ (fv 85).toInt ≤ 840 := hF_fv 85
                          refine my_cut (P := fun R9 a9 Q9 => ∀ (fv_194 : Nat → Int32) (ar_196 : Nat → Nat → Int32) (wd_198 : Int64) (H : Heap) (locs : List Loc) (ls : Array Slot), rF fv_194 → fM [8, 36, 66] fv_157 fv_194 → rA ar_196 → fA [4, 16, 24, 64, 65, 68, 75, 76, 77, 78, 79, 80] ar_159 ar_196 → wt_fm G9 (fv_194 8) (ar_196 4) → sW ar_196 → vM fv_194 ar_196 → va_P (dC, dI) vwCl (wsM h ad cA fv_194 wd_198 ar_196) H → va_S (aM h ad s.heap.size) s.heap H locs → lv_has ls 2 [(0, .ref h), (1, .int x_156)] → W p l e R9 s m a9 below meth c H locs 0 0 Q9 (F0 m 240 ls [])) ?_ (fun hj_202 => ?_)
                          · intro fv_194 ar_196 wd_198 H locs ls hF_fv_194 fr_195 hA_ar_196 fa_197 hp_199 hp_200 hp_201 hP hS hl
                            obtain ⟨v_203, ev_203⟩ : ∃ z : Int32, z = x_156 + 1 := ⟨_, rfl⟩
                            refine lv_iinc (v := v_203) (lv' := [(1, .int v_203), (0, .ref h)]) hx hb dX12_step_240 hl (k := 1) rfl (by rw [ev_203]; rfl) (by decide) rfl (fun ls hl => ?_)
                            have t_204 : v_203.toInt = x_156.toInt + 1 ∧ 1 ≤ v_203.toInt ∧ v_203.toInt ≤ 80 := iv_addc ev_203 i_170 (by decide) (by decide) (by decide)
                            refine lv_goto (tgt := 206) hx hb dX12_step_243 (by decide) ?_
                            exact ih_165 v_203 fv_194 ar_196 wd_198 _ _ ls (by omega) (iv_w t_204.2 (by decide) (by decide)) hF_fv_194 (fM_call (fM_call (fM_rf [8, 36, 66] _) fr_158 (by decide)) fr_195 (by decide)) hA_ar_196 (fA_call (fA_call (fA_rf [4, 16, 24, 64, 65, 68, 75, 76, 77, 78, 79, 80] _) fa_160 (by decide)) fa_197 (by decide)) hp_199 hp_200 hp_201 hP hS (lv_sub hl [1, 0] rfl)
                          · skip
                            refine lv_icmp_ne (tgt := 240) hx hb dX12_step_224 (by decide) (fun c_174 => ?_) (fun c_174 => ?_)
                            · skip
                              exact hj_202 fv_157 ar_159 wd_161 _ _ ls hF_fv_157 (fM_rf [8, 36, 66] _) hA_ar_159 (fA_rf [4, 16, 24, 64, 65, 68, 75, 76, 77, 78, 79, 80] _) hp_162 hp_163 hp_164 hP hS (lv_sub hl [0, 1] rfl)
                            · skip
                              have i_175 : 0 ≤ v_172.toInt ∧ v_172.toInt ≤ 840 := iv_eq1 i_173 c_174
                              refine lv_aload_n hx hb dX12_step_227 rfl (lv_at hl 0 rfl) ?_
                              refine lv_iload_n hx hb dX12_step_228 rfl (lv_at hl 1 rfl) ?_
                              refine va_calli (va_runV (As := [.int x_156]) (rest := []) ⟨hx, hb, hml, hown, hts⟩ (m_runsToday l dC dI H.size h ad cA hd fv_157 wd_161 ar_159 hF_fv_157 hA_ar_159 x_156 i_170) (cwV 1 hts (gV kw_8_180 kw_8_182 kw_p_85 kw_1_15 kw_8_183) rfl rfl rfl (by decide +kernel) ⟨Nat.le_of_ble_eq_true rfl, Nat.le_of_ble_eq_true rfl⟩) ⟨fun a U g mk q => ⟨q.1, q.2.1, q.2.2.1, va_K.moved (u := U) (U := U.calling g mk a) (Vm.Alike.refl U.vm) q.2.2.2⟩, va_recv hK hP (ci := 12) (q0 := 0) rfl rfl, fun U hU hW => ⟨rfl, by rw [hU], by rw [hU]; exact hP, va_K.moved hW.alike hK⟩⟩ rfl rfl hl.1 rfl (lv_room (Nat.le_of_ble_eq_true rfl)) dX12_step_229 ⟨Nat.le_of_ble_eq_true rfl, Nat.le_of_ble_eq_true rfl⟩) hS (fun q _ h9 => aM_up hS q h9) (aM_up hS) (fun r_176 u t H1 locs ht _ hw hB _ hk1 hS => ?_)
                              obtain ⟨fv_178, wd_179, ar_180⟩ := u
                              obtain ⟨hF_fv_178, hA_ar_180, fr_181, fa_182, p_177, -⟩ := hw
                              have hP : va_P (dC, dI) vwCl (wsM h ad cA fv_178 wd_179 ar_180) H1 := by have h9 := hB.1; rw [ht] at h9; exact h9
                              have fr_181 : fM [] fv_157 fv_178 := fr_181
                              have fa_182 : fA [] ar_159 ar_180 := fa_182
                              generalize H1 = H at hP hS ⊢
                              refine lv_if_eq (tgt := 240) hx hb dX12_step_232 (by decide) (fun c_183 => ?_) (fun c_183 => ?_)
                              · skip
                                have i_184 : 0 ≤ r_176.toInt ∧ r_176.toInt ≤ 0 := iv_eq1 (⟨by decide, by decide⟩ : (0 : Int) ≤ (0 : Int32).toInt ∧ (0 : Int32).toInt ≤ 0) c_183
                                exact hj_202 fv_178 ar_180 wd_179 _ _ ls hF_fv_178 (fM_call (fM_rf [8, 36, 66] _) fr_181 (by decide)) hA_ar_180 (fA_call (fA_rf [4, 16, 24, 64, 65, 68, 75, 76, 77, 78, 79, 80] _) fa_182 (by decide)) (mF_fr hp_162 (fM_call (fM_rf [] _) fr_181 (by decide)) (fA_call (fA_rf [] _) fa_182 (by decide)) rfl rfl) (sW_fr hp_163 (fA_call (fA_rf [] _) fa_182 (by decide)) rfl rfl) (vM_fr hp_164 (fM_call (fM_rf [] _) fr_181 (by decide)) (fA_call (fA_rf [] _) fa_182 (by decide)) rfl rfl rfl rfl rfl) hP hS (lv_sub hl [0, 1] rfl)
                              · skip
                                have i_185 : 1 ≤ r_176.toInt ∧ r_176.toInt ≤ 1 := iv_nel p_177 (by decide) c_183
                                refine lv_aload_n hx hb dX12_step_235 rfl (lv_at hl 0 rfl) ?_
                                refine lv_iload_n hx hb dX12_step_236 rfl (lv_at hl 1 rfl) ?_
                                refine va_callv (va_runV (As := [.int x_156]) (rest := []) ⟨hx, hb, hml, hown, hts⟩ (m_leave l dC dI H.size h ad cA hd fv_178 wd_179 ar_180 hF_fv_178 hA_ar_180 G9 x_156 i_170 (sW_fr hp_163 (fA_call (fA_rf [] _) fa_182 (by decide)) rfl rfl) (vM_fr hp_164 (fM_call (fM_rf [] _) fr_181 (by decide)) (fA_call (fA_rf [] _) fa_182 (by decide)) rfl rfl rfl rfl rfl) (mF_fr hp_162 (fM_call (fM_rf [] _) fr_181 (by decide)) (fA_call (fA_rf [] _) fa_182 (by decide)) rfl rfl)) (cwV 1 hts (gV kw_8_224 kw_8_226 kw_p_96 kw_1_15 kw_8_227) rfl rfl rfl (by decide +kernel) ⟨Nat.le_of_ble_eq_true rfl, Nat.le_of_ble_eq_true rfl⟩) ⟨fun a U g mk q => ⟨q.1, q.2.1, q.2.2.1, va_K.moved (u := U) (U := U.calling g mk a) (Vm.Alike.refl U.vm) q.2.2.2⟩, va_recv hK hP (ci := 12) (q0 := 0) rfl rfl, fun U hU hW => ⟨rfl, by rw [hU], by rw [hU]; exact hP, va_K.moved hW.alike hK⟩⟩ rfl rfl hl.1 rfl (lv_room (Nat.le_of_ble_eq_true rfl)) dX12_step_237 ⟨Nat.le_of_ble_eq_true rfl, Nat.le_of_ble_eq_true rfl⟩) hS (fun q _ h9 => aM_up hS q h9) (aM_up hS) (fun u t H1 locs ht _ hw hB _ hk1 hS => ?_)
                                obtain ⟨fv_189, wd_190, ar_191⟩ := u
                                obtain ⟨hF_fv_189, hA_ar_191, fr_192, fa_193, p_187, p_188, -⟩ := hw
                                have hP : va_P (dC, dI) vwCl (wsM h ad cA fv_189 wd_190 ar_191) H1 := by have h9 := hB.1; rw [ht] at h9; exact h9
                                have fr_192 : fM [8, 36, 66] fv_178 fv_189 := fr_192
                                have fa_193 : fA [4, 16, 24, 64, 65, 68, 75, 76, 77, 78, 79, 80] ar_180 ar_191 := fa_193
                                have p_187 : sW ar_191 := p_187
                                have p_188 : wt_fm G9 (fv_189 8) (ar_191 4) := p_188
                                generalize H1 = H at hP hS ⊢
                                exact hj_202 fv_189 ar_191 wd_190 _ _ ls hF_fv_189 (fM_call (fM_call (fM_rf [8, 36, 66] _) fr_181 (by decide)) fr_192 (by decide)) hA_ar_191 (fA_call (fA_call (fA_rf [4, 16, 24, 64, 65, 68, 75, 76, 77, 78, 79, 80] _) fa_182 (by decide)) fa_193 (by decide)) p_188 p_187 (vM_fr hp_164 (fM_call (fM_call (fM_rf [8, 36, 66] _) fr_181 (by decide)) fr_192 (by decide)) (fA_call (fA_call (fA_rf [4, 16, 24, 64, 65, 68, 75, 76, 77, 78, 79, 80] _) fa_182 (by decide)) fa_193 (by decide)) rfl rfl rfl rfl rfl) hP hS (lv_sub hl [0, 1] rfl)
                    · skip
                      have z_255 : (0 : Int32).toInt = 0 := by decide
                      exact hj_167 81 0 fv_83 ar_85 wd_87 _ _ ls (by first | decide | omega) (iv_w (⟨by decide, by decide⟩ : (0 : Int) ≤ (0 : Int32).toInt ∧ (0 : Int32).toInt ≤ 0) (by decide) (by decide)) hF_fv_83 (fM_rf [8, 36, 66] _) hA_ar_85 (fA_rf [4, 16, 24, 64, 65, 68, 75, 76, 77, 78, 79, 80] _) hp_88 hp_89 hp_90 hP hS (lv_sub hl [1, 0] rfl)
                  · skip
                    have i_95 : 0 ≤ x_82.toInt ∧ x_82.toInt ≤ 39 := iv_lt1 i_x_82 i_40 (Int32.not_le.mp c_94)
                    have i_96 : 1 ≤ (fv 32).toInt ∧ (fv 32).toInt ≤ 40 := iv_lt2 i_x_82 i_40 (Int32.not_le.mp c_94)
                    refine lv_aload_n hx hb dX12_step_126 rfl (lv_at hl 0 rfl) ?_
                    refine gM_68 hx hb htg hown hK hP dX12_step_127 ?_
                    refine lv_iload_n hx hb dX12_step_130 rfl (lv_at hl 1 rfl) ?_
                    refine lM_68 hx hb hK hP (iv_in i_95 (by decide) (by decide)) dX12_step_131 (fun v_97 ev_97 => ?_)
                    refine my_cut (P := fun R9 a9 Q9 => ∀ (fv_144 : Nat → Int32) (ar_146 : Nat → Nat → Int32) (wd_148 : Int64) (H : Heap) (locs : List Loc) (ls : Array Slot), rF fv_144 → fM [8] fv_83 fv_144 → rA ar_146 → fA [4, 15, 18, 68, 69, 70, 71, 72, 74, 82] ar_85 ar_146 → wt_fm G9 (fv_144 8) (ar_146 4) → sW ar_146 → vM fv_144 ar_146 → va_P (dC, dI) vwCl (wsM h ad cA fv_144 wd_148 ar_146) H → va_S (aM h ad s.heap.size) s.heap H locs → lv_has ls 2 [(0, .ref h), (1, .int x_82)] → W p l e R9 s m a9 below meth c H locs 0 0 Q9 (F0 m 198 ls [])) ?_ (fun hj_152 => ?_)
                    · intro fv_144 ar_146 wd_148 H locs ls hF_fv_144 fr_145 hA_ar_146 fa_147 hp_149 hp_150 hp_151 hP hS hl
                      obtain ⟨v_153, ev_153⟩ : ∃ z : Int32, z = x_82 + 1 := ⟨_, rfl⟩
                      refine lv_iinc (v := v_153) (lv' := [(1, .int v_153), (0, .ref h)]) hx hb dX12_step_198 hl (k := 1) rfl (by rw [ev_153]; rfl) (by decide) rfl (fun ls hl => ?_)
                      have t_154 : v_153.toInt = x_82.toInt + 1 ∧ 1 ≤ v_153.toInt ∧ v_153.toInt ≤ 40 := iv_addc ev_153 i_95 (by decide) (by decide) (by decide)
                      refine lv_goto (tgt := 118) hx hb dX12_step_201 (by decide) ?_
                      exact ih_91 v_153 fv_144 ar_146 wd_148 _ _ ls (by omega) (iv_w t_154.2 (by decide) (by decide)) hF_fv_144 (fM_call (fM_call (fM_rf [8] _) fr_84 (by decide)) fr_145 (by decide)) hA_ar_146 (fA_call (fA_call (fA_rf [4, 15, 18, 68, 69, 70, 71, 72, 74, 82] _) fa_86 (by decide)) fa_147 (by decide)) hp_149 hp_150 hp_151 hP hS (lv_sub hl [1, 0] rfl)
                    · skip
                      refine lv_if_ne (tgt := 160) hx hb dX12_step_132 (by decide) (fun c_98 => ?_) (fun c_98 => ?_)
                      · skip
                        refine lv_aload_n hx hb dX12_step_160 rfl (lv_at hl 0 rfl) ?_
                        refine gM_68 hx hb htg hown hK hP dX12_step_161 ?_
                        refine lv_iload_n hx hb dX12_step_164 rfl (lv_at hl 1 rfl) ?_
                        refine lM_68 hx hb hK hP (iv_in i_95 (by decide) (by decide)) dX12_step_165 (fun v_99 ev_99 => ?_)
                        obtain rfl : v_97 = v_99 := ev_97.trans ev_99.symm
                        refine lv_iconst (v := 1) hx hb dX12_step_166 (by decide) ?_
                        refine lv_icmp_eq (tgt := 180) hx hb dX12_step_167 (by decide) (fun c_100 => ?_) (fun c_100 => ?_)
                        · skip
                          have i_101 : 1 ≤ v_97.toInt ∧ v_97.toInt ≤ 1 := iv_eq1 (⟨by decide, by decide⟩ : (1 : Int) ≤ (1 : Int32).toInt ∧ (1 : Int32).toInt ≤ 1) c_100
                          refine lv_aload_n hx hb dX12_step_180 rfl (lv_at hl 0 rfl) ?_
                          refine gM_70 hx hb htg hown hK hP dX12_step_181 ?_
                          refine lv_iload_n hx hb dX12_step_184 rfl (lv_at hl 1 rfl) ?_
                          refine lM_70 hx hb hK hP (iv_in i_95 (by decide) (by decide)) dX12_step_185 (fun v_102 ev_102 => ?_)
                          refine lv_aload_n hx hb dX12_step_186 rfl (lv_at hl 0 rfl) ?_
                          refine gM_85 hx hb htg hown hK hP dX12_step_187 ?_
                          refine my_ti (y := fv 85) ((fr_84 85 rfl).trans ((fr_30 85 rfl))) ?_
                          have i_103 : 0 ≤ (fv 85).toInt ∧ (fv 85).toInt ≤ 840 := hF_fv 85
                          refine lv_icmp_ne (tgt := 198) hx hb dX12_step_190 (by decide) (fun c_104 => ?_) (fun c_104 => ?_)
                          · skip
                            exact hj_152 fv_83 ar_85 wd_87 _ _ ls hF_fv_83 (fM_rf [8] _) hA_ar_85 (fA_rf [4, 15, 18, 68, 69, 70, 71, 72, 74, 82] _) hp_88 hp_89 hp_90 hP hS (lv_sub hl [0, 1] rfl)
                          · skip
                            have i_105 : 0 ≤ v_102.toInt ∧ v_102.toInt ≤ 840 := iv_eq1 i_103 c_104
                            refine lv_aload_n hx hb dX12_step_193 rfl (lv_at hl 0 rfl) ?_
                            refine lv_iload_n hx hb dX12_step_194 rfl (lv_at hl 1 rfl) ?_
                            refine va_callv (va_runV (As := [.int x_82]) (rest := []) ⟨hx, hb, hml, hown, hts⟩ (m_arrive l dC dI H.size h ad cA hd fv_83 wd_87 ar_85 hF_fv_83 hA_ar_85 x_82 i_95 hp_89) (cwV 1 hts (gV kw_8_220 kw_8_222 kw_p_95 kw_1_15 kw_8_223) rfl rfl rfl (by decide +kernel) ⟨Nat.le_of_ble_eq_true rfl, Nat.le_of_ble_eq_true rfl⟩) ⟨fun a U g mk q => ⟨q.1, q.2.1, q.2.2.1, va_K.moved (u := U) (U := U.calling g mk a) (Vm.Alike.refl U.vm) q.2.2.2⟩, va_recv hK hP (ci := 12) (q0 := 0) rfl rfl, fun U hU hW => ⟨rfl, by rw [hU], by rw [hU]; exact hP, va_K.moved hW.alike hK⟩⟩ rfl rfl hl.1 rfl (lv_room (Nat.le_of_ble_eq_true rfl)) dX12_step_195 ⟨Nat.le_of_ble_eq_true rfl, Nat.le_of_ble_eq_true rfl⟩) hS (fun q _ h9 => aM_up hS q h9) (aM_up hS) (fun u t H1 locs ht _ hw hB _ hk1 hS => ?_)
                            obtain ⟨fv_108, wd_109, ar_110⟩ := u
                            obtain ⟨hF_fv_108, hA_ar_110, fr_111, fa_112, p_107, -⟩ := hw
                            have hP : va_P (dC, dI) vwCl (wsM h ad cA fv_108 wd_109 ar_110) H1 := by have h9 := hB.1; rw [ht] at h9; exact h9
                            have fr_111 : fM [] fv_83 fv_108 := fr_111
                            have fa_112 : fA [68, 72] ar_85 ar_110 := fa_112
                            have p_107 : sW ar_110 := p_107
                            generalize H1 = H at hP hS ⊢
                            exact hj_152 fv_108 ar_110 wd_109 _ _ ls hF_fv_108 (fM_call (fM_rf [8] _) fr_111 (by decide)) hA_ar_110 (fA_call (fA_rf [4, 15, 18, 68, 69, 70, 71, 72, 74, 82] _) fa_112 (by decide)) (mF_fr hp_88 (fM_call (fM_rf [] _) fr_111 (by decide)) (fA_call (fA_rf [68, 72] _) fa_112 (by decide)) rfl rfl) p_107 (vM_fr hp_90 (fM_call (fM_rf [] _) fr_111 (by decide)) (fA_call (fA_rf [68, 72] _) fa_112 (by decide)) rfl rfl rfl rfl rfl) hP hS (lv_sub hl [0, 1] rfl)
                        · skip
                          refine lv_aload_n hx hb dX12_step_170 rfl (lv_at hl 0 rfl) ?_
                          refine gM_68 hx hb htg hown hK hP dX12_step_171 ?_
                          refine lv_iload_n hx hb dX12_step_174 rfl (lv_at hl 1 rfl) ?_
                          refine lM_68 hx hb hK hP (iv_in i_95 (by decide) (by decide)) dX12_step_175 (fun v_113 ev_113 => ?_)
                          obtain rfl : v_97 = v_113 := ev_97.trans ev_113.symm
                          refine lv_iconst (v := 4) hx hb dX12_step_176 (by decide) ?_
                          refine lv_icmp_ne (tgt := 198) hx hb dX12_step_177 (by decide) (fun c_114 => ?_) (fun c_114 => ?_)
                          · skip
                            exact hj_152 fv_83 ar_85 wd_87 _ _ ls hF_fv_83 (fM_rf [8] _) hA_ar_85 (fA_rf [4, 15, 18, 68, 69, 70, 71, 72, 74, 82] _) hp_88 hp_89 hp_90 hP hS (lv_sub hl [0, 1] rfl)
                          · skip
                            have i_115 : 4 ≤ v_97.toInt ∧ v_97.toInt ≤ 4 := iv_eq1 (⟨by decide, by decide⟩ : (4 : Int) ≤ (4 : Int32).toInt ∧ (4 : Int32).toInt ≤ 4) c_114
                            refine lv_aload_n hx hb dX12_step_180 rfl (lv_at hl 0 rfl) ?_
                            refine gM_70 hx hb htg hown hK hP dX12_step_181 ?_
                            refine lv_iload_n hx hb dX12_step_184 rfl (lv_at hl 1 rfl) ?_
                            refine lM_70 hx hb hK hP (iv_in i_95 (by decide) (by decide)) dX12_step_185 (fun v_116 ev_116 => ?_)
                            refine lv_aload_n hx hb dX12_step_186 rfl (lv_at hl 0 rfl) ?_
                            refine gM_85 hx hb htg hown hK hP dX12_step_187 ?_
                            refine my_ti (y := fv 85) ((fr_84 85 rfl).trans ((fr_30 85 rfl))) ?_
                            have i_117 : 0 ≤ (fv 85).toInt ∧ (fv 85).toInt ≤ 840 := hF_fv 85
                            refine lv_icmp_ne (tgt := 198) hx hb dX12_step_190 (by decide) (fun c_118 => ?_) (fun c_118 => ?_)
                            · skip
                              exact hj_152 fv_83 ar_85 wd_87 _ _ ls hF_fv_83 (fM_rf [8] _) hA_ar_85 (fA_rf [4, 15, 18, 68, 69, 70, 71, 72, 74, 82] _) hp_88 hp_89 hp_90 hP hS (lv_sub hl [0, 1] rfl)
                            · skip
                              have i_119 : 0 ≤ v_116.toInt ∧ v_116.toInt ≤ 840 := iv_eq1 i_117 c_118
                              refine lv_aload_n hx hb dX12_step_193 rfl (lv_at hl 0 rfl) ?_
                              refine lv_iload_n hx hb dX12_step_194 rfl (lv_at hl 1 rfl) ?_
                              refine va_callv (va_runV (As := [.int x_82]) (rest := []) ⟨hx, hb, hml, hown, hts⟩ (m_arrive l dC dI H.size h ad cA hd fv_83 wd_87 ar_85 hF_fv_83 hA_ar_85 x_82 i_95 hp_89) (cwV 1 hts (gV kw_8_220 kw_8_222 kw_p_95 kw_1_15 kw_8_223) rfl rfl rfl (by decide +kernel) ⟨Nat.le_of_ble_eq_true rfl, Nat.le_of_ble_eq_true rfl⟩) ⟨fun a U g mk q => ⟨q.1, q.2.1, q.2.2.1, va_K.moved (u := U) (U := U.calling g mk a) (Vm.Alike.refl U.vm) q.2.2.2⟩, va_recv hK hP (ci := 12) (q0 := 0) rfl rfl, fun U hU hW => ⟨rfl, by rw [hU], by rw [hU]; exact hP, va_K.moved hW.alike hK⟩⟩ rfl rfl hl.1 rfl (lv_room (Nat.le_of_ble_eq_true rfl)) dX12_step_195 ⟨Nat.le_of_ble_eq_true rfl, Nat.le_of_ble_eq_true rfl⟩) hS (fun q _ h9 => aM_up hS q h9) (aM_up hS) (fun u t H1 locs ht _ hw hB _ hk1 hS => ?_)
                              obtain ⟨fv_122, wd_123, ar_124⟩ := u
                              obtain ⟨hF_fv_122, hA_ar_124, fr_125, fa_126, p_121, -⟩ := hw
                              have hP : va_P (dC, dI) vwCl (wsM h ad cA fv_122 wd_123 ar_124) H1 := by have h9 := hB.1; rw [ht] at h9; exact h9
                              have fr_125 : fM [] fv_83 fv_122 := fr_125
                              have fa_126 : fA [68, 72] ar_85 ar_124 := fa_126
                              have p_121 : sW ar_124 := p_121
                              generalize H1 = H at hP hS ⊢
                              exact hj_152 fv_122 ar_124 wd_123 _ _ ls hF_fv_122 (fM_call (fM_rf [8] _) fr_125 (by decide)) hA_ar_124 (fA_call (fA_rf [4, 15, 18, 68, 69, 70, 71, 72, 74, 82] _) fa_126 (by decide)) (mF_fr hp_88 (fM_call (fM_rf [] _) fr_125 (by decide)) (fA_call (fA_rf [68, 72] _) fa_126 (by decide)) rfl rfl) p_121 (vM_fr hp_90 (fM_call (fM_rf [] _) fr_125 (by decide)) (fA_call (fA_rf [68, 72] _) fa_126 (by decide)) rfl rfl rfl rfl rfl) hP hS (lv_sub hl [0, 1] rfl)
                      · skip
                        have i_127 : 0 ≤ v_97.toInt ∧ v_97.toInt ≤ 0 := iv_eq1 (⟨by decide, by decide⟩ : (0 : Int) ≤ (0 : Int32).toInt ∧ (0 : Int32).toInt ≤ 0) c_98
                        refine lv_aload_n hx hb dX12_step_135 rfl (lv_at hl 0 rfl) ?_
                        refine gM_12 hx hb htg hown hK hP dX12_step_136 ?_
                        refine lv_iload_n hx hb dX12_step_139 rfl (lv_at hl 1 rfl) ?_
                        refine lM_12 hx hb hK hP (iv_in i_95 (by decide) (by decide)) dX12_step_140 (fun v_128 ev_128 => ?_)
                        refine lv_aload_n hx hb dX12_step_141 rfl (lv_at hl 0 rfl) ?_
                        refine gM_85 hx hb htg hown hK hP dX12_step_142 ?_
                        refine my_ti (y := fv 85) ((fr_84 85 rfl).trans ((fr_30 85 rfl))) ?_
                        have i_129 : 0 ≤ (fv 85).toInt ∧ (fv 85).toInt ≤ 840 := hF_fv 85
                        refine lv_icmp_ne (tgt := 160) hx hb dX12_step_145 (by decide) (fun c_130 => ?_) (fun c_130 => ?_)
                        · skip
                          refine lv_aload_n hx hb dX12_step_160 rfl (lv_at hl 0 rfl) ?_
                          refine gM_68 hx hb htg hown hK hP dX12_step_161 ?_
                          refine lv_iload_n hx hb dX12_step_164 rfl (lv_at hl 1 rfl) ?_
                          refine lM_68 hx hb hK hP (iv_in i_95 (by decide) (by decide)) dX12_step_165 (fun v_131 ev_131 => ?_)
                          obtain rfl : v_97 = v_131 := ev_97.trans ev_131.symm
                          refine lv_iconst (v := 1) hx hb dX12_step_166 (by decide) ?_
                          refine lv_icmp_eq (tgt := 180) hx hb dX12_step_167 (by decide) (fun c_132 => ?_) (fun c_132 => ?_)
                          · skip
                            exact absurd True.intro (by have h7 := i_127; have h8 := (⟨by decide, by decide⟩ : (1 : Int) ≤ (1 : Int32).toInt ∧ (1 : Int32).toInt ≤ 1); have h9 := congrArg Int32.toInt c_132; exfalso; omega)
                          · skip
                            refine lv_aload_n hx hb dX12_step_170 rfl (lv_at hl 0 rfl) ?_
                            refine gM_68 hx hb htg hown hK hP dX12_step_171 ?_
                            refine lv_iload_n hx hb dX12_step_174 rfl (lv_at hl 1 rfl) ?_
                            refine lM_68 hx hb hK hP (iv_in i_95 (by decide) (by decide)) dX12_step_175 (fun v_133 ev_133 => ?_)
                            obtain rfl : v_97 = v_133 := ev_97.trans ev_133.symm
                            refine lv_iconst (v := 4) hx hb dX12_step_176 (by decide) ?_
                            refine lv_icmp_ne (tgt := 198) hx hb dX12_step_177 (by decide) (fun c_134 => ?_) (fun c_134 => ?_)
                            · skip
                              exact hj_152 fv_83 ar_85 wd_87 _ _ ls hF_fv_83 (fM_rf [8] _) hA_ar_85 (fA_rf [4, 15, 18, 68, 69, 70, 71, 72, 74, 82] _) hp_88 hp_89 hp_90 hP hS (lv_sub hl [0, 1] rfl)
                            · skip
                              exact absurd True.intro (by have h7 := i_127; have h8 := (⟨by decide, by decide⟩ : (4 : Int) ≤ (4 : Int32).toInt ∧ (4 : Int32).toInt ≤ 4); have h9 := congrArg Int32.toInt c_134; exfalso; omega)
                        · skip
                          have i_135 : 0 ≤ v_128.toInt ∧ v_128.toInt ≤ 840 := iv_eq1 i_129 c_130
                          refine lv_aload_n hx hb dX12_step_148 rfl (lv_at hl 0 rfl) ?_
                          refine lv_iload_n hx hb dX12_step_149 rfl (lv_at hl 1 rfl) ?_
                          refine lv_aload_n hx hb dX12_step_150 rfl (lv_at hl 0 rfl) ?_
                          refine gM_85 hx hb htg hown hK hP dX12_step_151 ?_
                          refine my_ti (y := fv 85) ((fr_84 85 rfl).trans ((fr_30 85 rfl))) ?_
                          refine va_callv (va_runV (As := [.int x_82, .int (fv 85)]) (rest := []) ⟨hx, hb, hml, hown, hts⟩ (m_choose l dC dI H.size h ad cA hd fv_83 wd_87 ar_85 hF_fv_83 hA_ar_85 G9 x_82 (fv 85) i_95 hp_89 hp_88) (cwV 2 hts (gV kw_8_188 kw_8_190 kw_p_87 kw_1_15 kw_8_191) rfl rfl rfl (by decide +kernel) ⟨Nat.le_of_ble_eq_true rfl, Nat.le_of_ble_eq_true rfl⟩) ⟨fun a U g mk q => ⟨q.1, q.2.1, q.2.2.1, va_K.moved (u := U) (U := U.calling g mk a) (Vm.Alike.refl U.vm) q.2.2.2⟩, va_recv hK hP (ci := 12) (q0 := 0) rfl rfl, fun U hU hW => ⟨rfl, by rw [hU], by rw [hU]; exact hP, va_K.moved hW.alike hK⟩⟩ rfl rfl hl.1 rfl (lv_room (Nat.le_of_ble_eq_true rfl)) dX12_step_154 ⟨Nat.le_of_ble_eq_true rfl, Nat.le_of_ble_eq_true rfl⟩) hS (fun q _ h9 => aM_up hS q h9) (aM_up hS) (fun u t H1 locs ht _ hw hB _ hk1 hS => ?_)
                          obtain ⟨fv_139, wd_140, ar_141⟩ := u
                          obtain ⟨hF_fv_139, hA_ar_141, fr_142, fa_143, p_137, p_138, -⟩ := hw
                          have hP : va_P (dC, dI) vwCl (wsM h ad cA fv_139 wd_140 ar_141) H1 := by have h9 := hB.1; rw [ht] at h9; exact h9
                          have fr_142 : fM [8] fv_83 fv_139 := fr_142
                          have fa_143 : fA [4, 15, 18, 68, 69, 70, 71, 72, 74, 82] ar_85 ar_141 := fa_143
                          have p_137 : sW ar_141 := p_137
                          have p_138 : wt_fm G9 (fv_139 8) (ar_141 4) := p_138
                          generalize H1 = H at hP hS ⊢
                          refine lv_goto (tgt := 198) hx hb dX12_step_157 (by decide) ?_
                          exact hj_152 fv_139 ar_141 wd_140 _ _ ls hF_fv_139 (fM_call (fM_rf [8] _) fr_142 (by decide)) hA_ar_141 (fA_call (fA_rf [4, 15, 18, 68, 69, 70, 71, 72, 74, 82] _) fa_143 (by decide)) p_138 p_137 (vM_fr hp_90 (fM_call (fM_rf [8] _) fr_142 (by decide)) (fA_call (fA_rf [4, 15, 18, 68, 69, 70, 71, 72, 74, 82] _) fa_143 (by decide)) rfl rfl rfl rfl rfl) hP hS (lv_sub hl [0, 1] rfl)
              · skip
                have z_256 : (0 : Int32).toInt = 0 := by decide
                exact hj_93 41 0 fv_29 ar_31 wd_33 _ _ ls (by first | decide | omega) (iv_w (⟨by decide, by decide⟩ : (0 : Int) ≤ (0 : Int32).toInt ∧ (0 : Int32).toInt ≤ 0) (by decide) (by decide)) hF_fv_29 (fM_rf [8] _) hA_ar_31 (fA_rf [4, 15, 18, 68, 69, 70, 71, 72, 74, 82] _) hp_34 hp_35 hp_36 hP hS (lv_sub hl [1, 0] rfl)
            · skip
              have i_42 : 0 ≤ x_28.toInt ∧ x_28.toInt ≤ 39 := iv_lt1 i_x_28 i_40 (Int32.not_le.mp c_41)
              have i_43 : 1 ≤ (fv 32).toInt ∧ (fv 32).toInt ≤ 40 := iv_lt2 i_x_28 i_40 (Int32.not_le.mp c_41)
              refine lv_aload_n hx hb dX12_step_46 rfl (lv_at hl 0 rfl) ?_
              refine gM_68 hx hb htg hown hK hP dX12_step_47 ?_
              refine lv_iload_n hx hb dX12_step_50 rfl (lv_at hl 1 rfl) ?_
              refine lM_68 hx hb hK hP (iv_in i_42 (by decide) (by decide)) dX12_step_51 (fun v_44 ev_44 => ?_)
              refine lv_iconst (v := 3) hx hb dX12_step_52 (by decide) ?_
              refine my_cut (P := fun R9 a9 Q9 => ∀ (fv_70 : Nat → Int32) (ar_72 : Nat → Nat → Int32) (wd_74 : Int64) (H : Heap) (locs : List Loc) (ls : Array Slot), rF fv_70 → fM [8] fv_29 fv_70 → rA ar_72 → fA [4, 15, 18, 68, 69, 70, 71, 72, 74, 82] ar_31 ar_72 → wt_fm G9 (fv_70 8) (ar_72 4) → sW ar_72 → vM fv_70 ar_72 → va_P (dC, dI) vwCl (wsM h ad cA fv_70 wd_74 ar_72) H → va_S (aM h ad s.heap.size) s.heap H locs → lv_has ls 2 [(0, .ref h), (1, .int x_28)] → W p l e R9 s m a9 below meth c H locs 0 0 Q9 (F0 m 110 ls [])) ?_ (fun hj_78 => ?_)
              · intro fv_70 ar_72 wd_74 H locs ls hF_fv_70 fr_71 hA_ar_72 fa_73 hp_75 hp_76 hp_77 hP hS hl
                obtain ⟨v_79, ev_79⟩ : ∃ z : Int32, z = x_28 + 1 := ⟨_, rfl⟩
                refine lv_iinc (v := v_79) (lv' := [(1, .int v_79), (0, .ref h)]) hx hb dX12_step_110 hl (k := 1) rfl (by rw [ev_79]; rfl) (by decide) rfl (fun ls hl => ?_)
                have t_80 : v_79.toInt = x_28.toInt + 1 ∧ 1 ≤ v_79.toInt ∧ v_79.toInt ≤ 40 := iv_addc ev_79 i_42 (by decide) (by decide) (by decide)
                refine lv_goto (tgt := 38) hx hb dX12_step_113 (by decide) ?_
                exact ih_37 v_79 fv_70 ar_72 wd_74 _ _ ls (by omega) (iv_w t_80.2 (by decide) (by decide)) hF_fv_70 (fM_call (fM_call (fM_rf [8] _) fr_30 (by decide)) fr_71 (by decide)) hA_ar_72 (fA_call (fA_call (fA_rf [4, 15, 18, 68, 69, 70, 71, 72, 74, 82] _) fa_32 (by decide)) fa_73 (by decide)) hp_75 hp_76 hp_77 hP hS (lv_sub hl [1, 0] rfl)
              · skip
                refine lv_icmp_ne (tgt := 110) hx hb dX12_step_53 (by decide) (fun c_45 => ?_) (fun c_45 => ?_)
                · skip
                  exact hj_78 fv_29 ar_31 wd_33 _ _ ls hF_fv_29 (fM_rf [8] _) hA_ar_31 (fA_rf [4, 15, 18, 68, 69, 70, 71, 72, 74, 82] _) hp_34 hp_35 hp_36 hP hS (lv_sub hl [0, 1] rfl)
                · skip
                  have i_46 : 3 ≤ v_44.toInt ∧ v_44.toInt ≤ 3 := iv_eq1 (⟨by decide, by decide⟩ : (3 : Int) ≤ (3 : Int32).toInt ∧ (3 : Int32).toInt ≤ 3) c_45
                  refine lv_aload_n hx hb dX12_step_56 rfl (lv_at hl 0 rfl) ?_
                  refine gM_77 hx hb htg hown hK hP dX12_step_57 ?_
                  refine lv_aload_n hx hb dX12_step_60 rfl (lv_at hl 0 rfl) ?_
                  refine gM_25 hx hb htg hown hK hP dX12_step_61 ?_
                  refine lv_aload_n hx hb dX12_step_64 rfl (lv_at hl 0 rfl) ?_
                  refine gM_71 hx hb htg hown hK hP dX12_step_65 ?_
                  refine lv_iload_n hx hb dX12_step_68 rfl (lv_at hl 1 rfl) ?_
                  refine lM_71 hx hb hK hP (iv_in i_42 (by decide) (by decide)) dX12_step_69 (fun v_47 ev_47 => ?_)
                  have i_48 : (-1) ≤ v_47.toInt ∧ v_47.toInt ≤ 79 := ev_47 ▸ hA_ar_31 71 _
                  have i_49 : 0 ≤ v_47.toInt ∧ v_47.toInt ≤ 79 := ⟨by have h9 := hp_35 x_28.toNatClampNeg; rw [← ev_44, ← ev_47] at h9; exact h9 (Int.le_trans (by decide) (i_46).1) (Int.le_trans (i_46).2 (by decide)), (i_48).2⟩
                  refine lM_25 hx hb hK hP (iv_in i_49 (by decide) (by decide)) dX12_step_70 (fun v_50 ev_50 => ?_)
                  have i_51 : 0 ≤ v_50.toInt ∧ v_50.toInt ≤ 19 := ev_50 ▸ hA_ar_31 25 _
                  refine lM_77 hx hb hK hP (iv_in i_51 (by decide) (by decide)) dX12_step_71 (fun v_52 ev_52 => ?_)
                  refine lv_iconst (v := (-1)) hx hb dX12_step_72 (by decide) ?_
                  refine lv_icmp_eq (tgt := 79) hx hb dX12_step_73 (by decide) (fun c_53 => ?_) (fun c_53 => ?_)
                  · skip
                    have i_54 : (-1) ≤ v_52.toInt ∧ v_52.toInt ≤ (-1) := iv_eq1 (⟨by decide, by decide⟩ : (-1 : Int) ≤ ((-1) : Int32).toInt ∧ ((-1) : Int32).toInt ≤ -1) c_53
                    refine lv_aload_n hx hb dX12_step_79 rfl (lv_at hl 0 rfl) ?_
                    refine gM_69 hx hb htg hown hK hP dX12_step_80 ?_
                    refine lv_iload_n hx hb dX12_step_83 rfl (lv_at hl 1 rfl) ?_
                    refine lv_aload_n hx hb dX12_step_84 rfl (lv_at hl 0 rfl) ?_
                    refine gM_19 hx hb htg hown hK hP dX12_step_85 ?_
                    refine lv_aload_n hx hb dX12_step_88 rfl (lv_at hl 0 rfl) ?_
                    refine gM_27 hx hb htg hown hK hP dX12_step_89 ?_
                    refine lv_aload_n hx hb dX12_step_92 rfl (lv_at hl 0 rfl) ?_
                    refine gM_71 hx hb htg hown hK hP dX12_step_93 ?_
                    refine lv_iload_n hx hb dX12_step_96 rfl (lv_at hl 1 rfl) ?_
                    refine lM_71 hx hb hK hP (iv_in i_42 (by decide) (by decide)) dX12_step_97 (fun v_55 ev_55 => ?_)
                    obtain rfl : v_47 = v_55 := ev_47.trans ev_55.symm
                    refine lM_27 hx hb hK hP (iv_in i_49 (by decide) (by decide)) dX12_step_98 (fun v_56 ev_56 => ?_)
                    have i_57 : 0 ≤ v_56.toInt ∧ v_56.toInt ≤ 7 := ev_56 ▸ hA_ar_31 27 _
                    refine lM_19 hx hb hK hP (iv_in i_57 (by decide) (by decide)) dX12_step_99 (fun v_58 ev_58 => ?_)
                    have i_59 : 0 ≤ v_58.toInt ∧ v_58.toInt ≤ 11 := ev_58 ▸ hA_ar_31 19 _
                    refine sM_69 hx hb hK hP hS hd (iv_in i_42 (by decide) (by decide)) dX12_step_100 (fun H locs ar_60 ear_60 hP hS => ?_)
                    have hA_ar_60 : rA ar_60 := rA_put hA_ar_31 ear_60 i_59
                    refine lv_aload_n hx hb dX12_step_101 rfl (lv_at hl 0 rfl) ?_
                    refine lv_iload_n hx hb dX12_step_102 rfl (lv_at hl 1 rfl) ?_
                    refine lv_aload_n hx hb dX12_step_103 rfl (lv_at hl 0 rfl) ?_
                    refine gM_85 hx hb htg hown hK hP dX12_step_104 ?_
                    refine my_ti (y := fv 85) ((fr_30 85 rfl)) ?_
                    have i_61 : 0 ≤ (fv 85).toInt ∧ (fv 85).toInt ≤ 840 := hF_fv 85
                    refine va_callv (va_runV (As := [.int x_28, .int (fv 85)]) (rest := []) ⟨hx, hb, hml, hown, hts⟩ (m_choose l dC dI H.size h ad cA hd fv_29 wd_33 ar_60 hF_fv_29 hA_ar_60 G9 x_28 (fv 85) i_42 (sW_fr hp_35 (fA_put (fA_rf [69] _) ear_60 (by decide)) rfl rfl) (mF_fr hp_34 (fM_rf [] _) (fA_put (fA_rf [69] _) ear_60 (by decide)) rfl rfl)) (cwV 2 hts (gV kw_8_188 kw_8_190 kw_p_87 kw_1_15 kw_8_191) rfl rfl rfl (by decide +kernel) ⟨Nat.le_of_ble_eq_true rfl, Nat.le_of_ble_eq_true rfl⟩) ⟨fun a U g mk q => ⟨q.1, q.2.1, q.2.2.1, va_K.moved (u := U) (U := U.calling g mk a) (Vm.Alike.refl U.vm) q.2.2.2⟩, va_recv hK hP (ci := 12) (q0 := 0) rfl rfl, fun U hU hW => ⟨rfl, by rw [hU], by rw [hU]; exact hP, va_K.moved hW.alike hK⟩⟩ rfl rfl hl.1 rfl (lv_room (Nat.le_of_ble_eq_true rfl)) dX12_step_107 ⟨Nat.le_of_ble_eq_true rfl, Nat.le_of_ble_eq_true rfl⟩) hS (fun q _ h9 => aM_up hS q h9) (aM_up hS) (fun u t H1 locs ht _ hw hB _ hk1 hS => ?_)
                    obtain ⟨fv_65, wd_66, ar_67⟩ := u
                    obtain ⟨hF_fv_65, hA_ar_67, fr_68, fa_69, p_63, p_64, -⟩ := hw
                    have hP : va_P (dC, dI) vwCl (wsM h ad cA fv_65 wd_66 ar_67) H1 := by have h9 := hB.1; rw [ht] at h9; exact h9
                    have fr_68 : fM [8] fv_29 fv_65 := fr_68
                    have fa_69 : fA [4, 15, 18, 68, 69, 70, 71, 72, 74, 82] ar_60 ar_67 := fa_69
                    have p_63 : sW ar_67 := p_63
                    have p_64 : wt_fm G9 (fv_65 8) (ar_67 4) := p_64
                    generalize H1 = H at hP hS ⊢
                    exact hj_78 fv_65 ar_67 wd_66 _ _ ls hF_fv_65 (fM_call (fM_rf [8] _) fr_68 (by decide)) hA_ar_67 (fA_call (fA_put (fA_rf [4, 15, 18, 68, 69, 70, 71, 72, 74, 82] _) ear_60 (by decide)) fa_69 (by decide)) p_64 p_63 (vM_fr hp_36 (fM_call (fM_rf [8] _) fr_68 (by decide)) (fA_call (fA_put (fA_rf [4, 15, 18, 68, 69, 70, 71, 72, 74, 82] _) ear_60 (by decide)) fa_69 (by decide)) rfl rfl rfl rfl rfl) hP hS (lv_sub hl [0, 1] rfl)
                  · skip
                    refine lv_goto (tgt := 110) hx hb dX12_step_76 (by decide) ?_
                    exact hj_78 fv_29 ar_31 wd_33 _ _ ls hF_fv_29 (fM_rf [8] _) hA_ar_31 (fA_rf [4, 15, 18, 68, 69, 70, 71, 72, 74, 82] _) hp_34 hp_35 hp_36 hP hS (lv_sub hl [0, 1] rfl)
        · skip
          have z_257 : (0 : Int32).toInt = 0 := by decide
          exact hj_39 41 0 fv ar_2 wd _ _ ls (by first | decide | omega) (iv_w (⟨by decide, by decide⟩ : (0 : Int) ≤ (0 : Int32).toInt ∧ (0 : Int32).toInt ≤ 0) (by decide) (by decide)) hF_fv (fM_rf [8] _) hA_ar_2 (fA_rf [4, 15, 18, 68, 69, 70, 71, 72, 74, 82] _) hp_4 hp_5 hp_6 hP hS (lv_sub hl [1, 0] rfl)
      · skip
        have i_12 : 0 ≤ x_1.toInt ∧ x_1.toInt ≤ 19 := iv_lt1 i_x_1 i_10 (Int32.not_le.mp c_11)
        have i_13 : 1 ≤ (fv 34).toInt ∧ (fv 34).toInt ≤ 20 := iv_lt2 i_x_1 i_10 (Int32.not_le.mp c_11)
        refine lv_aload_n hx hb dX12_step_10 rfl (lv_at hl 0 rfl) ?_
        refine gM_77 hx hb htg hown hK hP dX12_step_11 ?_
        refine lv_iload_n hx hb dX12_step_14 rfl (lv_at hl 1 rfl) ?_
        refine lM_77 hx hb hK hP (iv_in i_12 (by decide) (by decide)) dX12_step_15 (fun v_14 ev_14 => ?_)
        refine lv_aload_n hx hb dX12_step_16 rfl (lv_at hl 0 rfl) ?_
        refine gM_85 hx hb htg hown hK hP dX12_step_17 ?_
        have i_15 : 0 ≤ (fv 85).toInt ∧ (fv 85).toInt ≤ 840 := hF_fv 85
        refine my_cut (P := fun R9 a9 Q9 => ∀ (ar_19 : Nat → Nat → Int32) (H : Heap) (locs : List Loc) (ls : Array Slot), rA ar_19 → fA [77] ar_2 ar_19 → wt_fm G9 (fv 8) (ar_19 4) → sW ar_19 → vM fv ar_19 → va_P (dC, dI) vwCl (wsM h ad cA fv wd ar_19) H → va_S (aM h ad s.heap.size) s.heap H locs → lv_has ls 2 [(0, .ref h), (1, .int x_1)] → W p l e R9 s m a9 below meth c H locs 0 0 Q9 (F0 m 30 ls [])) ?_ (fun hj_24 => ?_)
        · intro ar_19 H locs ls hA_ar_19 fa_20 hp_21 hp_22 hp_23 hP hS hl
          obtain ⟨v_25, ev_25⟩ : ∃ z : Int32, z = x_1 + 1 := ⟨_, rfl⟩
          refine lv_iinc (v := v_25) (lv' := [(1, .int v_25), (0, .ref h)]) hx hb dX12_step_30 hl (k := 1) rfl (by rw [ev_25]; rfl) (by decide) rfl (fun ls hl => ?_)
          have t_26 : v_25.toInt = x_1.toInt + 1 ∧ 1 ≤ v_25.toInt ∧ v_25.toInt ≤ 20 := iv_addc ev_25 i_12 (by decide) (by decide) (by decide)
          refine lv_goto (tgt := 2) hx hb dX12_step_33 (by decide) ?_
          exact ih_7 v_25 ar_19 _ _ ls (by omega) (iv_w t_26.2 (by decide) (by decide)) hA_ar_19 (fA_call (fA_call (fA_rf [77] _) fa_3 (by decide)) fa_20 (by decide)) hp_21 hp_22 hp_23 hP hS (lv_sub hl [1, 0] rfl)
        · skip
          refine lv_icmp_ne (tgt := 30) hx hb dX12_step_20 (by decide) (fun c_16 => ?_) (fun c_16 => ?_)
          · skip
            exact hj_24 ar_2 _ _ ls hA_ar_2 (fA_rf [77] _) hp_4 hp_5 hp_6 hP hS (lv_sub hl [0, 1] rfl)
          · skip
            have i_17 : 0 ≤ v_14.toInt ∧ v_14.toInt ≤ 840 := iv_eq1 i_15 c_16
            refine lv_aload_n hx hb dX12_step_23 rfl (lv_at hl 0 rfl) ?_
            refine gM_77 hx hb htg hown hK hP dX12_step_24 ?_
            refine lv_iload_n hx hb dX12_step_27 rfl (lv_at hl 1 rfl) ?_
            refine lv_iconst (v := (-1)) hx hb dX12_step_28 (by decide) ?_
            refine sM_77 hx hb hK hP hS hd (iv_in i_12 (by decide) (by decide)) dX12_step_29 (fun H locs ar_18 ear_18 hP hS => ?_)
            have hA_ar_18 : rA ar_18 := rA_put hA_ar_2 ear_18 (iv_any _)
            exact hj_24 ar_18 _ _ ls hA_ar_18 (fA_put (fA_rf [77] _) ear_18 (by decide)) (mF_fr hp_4 (fM_rf [] _) (fA_put (fA_rf [77] _) ear_18 (by decide)) rfl rfl) (sW_fr hp_5 (fA_put (fA_rf [77] _) ear_18 (by decide)) rfl rfl) (vM_fr hp_6 (fM_rf [] _) (fA_put (fA_rf [77] _) ear_18 (by decide)) rfl rfl rfl rfl rfl) hP hS (lv_sub hl [0, 1] rfl)
  · skip
    have z_258 : (0 : Int32).toInt = 0 := by decide
    exact hj_9 21 0 ar _ _ ls (by first | decide | omega) (iv_w (⟨by decide, by decide⟩ : (0 : Int) ≤ (0 : Int32).toInt ∧ (0 : Int32).toInt ≤ 0) (by decide) (by decide)) hA_ar (fA_rf [77] _) hp_mF hp_sW hp_vM hP hS (lv_sub hl [1, 0] rfl)
set_option maxHeartbeats 4000000 in
set_option maxRecDepth 100000 in
theorem m_goThrough (l : Launch) (dC : Nat → ClassId) (dI : Nat → Nat → Nat) (sz h : Nat) (ad : Nat → Nat) (cA : Nat → ClassId) (hd : dM h ad) (fv : Nat → Int32) (wd : Int64) (ar : Nat → Nat → Int32) (hF_fv : rF fv) (hA_ar : rA ar) (G9 : Nat → Int) (a : Int32) (hp_sW : sW ar) (hp_vM : vM fv ar) (hp_mF : wt_fm G9 (fv 8) (ar 4)) : Met l yX12_goThrough (.code yX12_goThrough cX12_goThrough 5 none :: lw_good) ({ frames := 9, cells := 0, slots := 0, locals := 201 }) (va_Pc [.ref h, .int a] (prM dC dI h ad cA fv wd ar sz)) (va_Qv (fun (u : mS) => rF u.1 ∧ rA u.2.2 ∧ fM [8, 36, 66, 84, 85, 87] fv u.1 ∧ fA [4, 15, 16, 18, 24, 64, 65, 68, 69, 70, 71, 72, 73, 74, 75, 76, 77, 78, 79, 80, 82, 83] ar u.2.2 ∧ (sW u.2.2) ∧ (wt_fm G9 (u.1 8) (u.2.2 4)) ∧ True) (enM dC dI h ad cA) (aM h ad sz)) 0 0 (aM h ad sz) := by
  refine Met.ofW (cc := cX12_goThrough) (maxL := 5) (ret := none) (by decide) rfl ?_
  intro p e s m args below meth c s₁ B hml hv
  obtain ⟨rfl, hsz, hP, hK⟩ := hv
  have hx := B.exec
  have hb := B.bytes
  have hr := B.returns
  have hts := atoms_spec (ws := (.code yX12_goThrough cX12_goThrough 5 none :: lw_good)) B.pre
  have htg : ∀ w ∈ lw_good, w.before _ s = true := fun w hw => hts w (List.mem_cons_of_mem _ hw)
  have hown : s.vm.findClass RX12 = some m.cls := findClass_of_methodNamed B.named
  have hlocks := B.notSynchronized
  subst hsz
  have hS : va_S (aM h ad s.heap.size) s.heap s.heap [] := va_S.rf
  have hl := lv_entry ([.ref h, .int a]) (n := 5) (Nat.le_of_ble_eq_true rfl)
  rw [lg_entry_eq]
  generalize (lg_sl ([.ref h, .int a]) ++ List.replicate (5 - (lg_sl ([.ref h, .int a])).length) Slot.unset).toArray = ls at hl ⊢
  have hl : lv_has ls 5 [(0, .ref h), (1, .int a)] := hl
  refine lv_aload_n hx hb dX12_goThrough_0 rfl (lv_at hl 0 rfl) ?_
  refine lv_iload_n hx hb dX12_goThrough_1 rfl (lv_at hl 1 rfl) ?_
  refine pM_84 hx hb htg hown hK hP hS hd dX12_goThrough_2 (fun H locs fv_1 efv_1 hP hS => ?_)
  have hF_fv_1 : rF fv_1 := rF_put hF_fv efv_1 (iv_any a)
  refine lv_iconst (v := 0) hx hb dX12_goThrough_5 (by decide) ?_
  refine lv_istore_n (lv' := [(2, .int 0), (0, .ref h), (1, .int a)]) hx hb dX12_goThrough_6 rfl hl (by decide) rfl (fun ls hl => ?_)
  refine my_cut (P := fun R9 a9 Q9 => ∀ (n_8 : Nat) (x_2 : Int32) (ar_3 : Nat → Nat → Int32) (H : Heap) (locs : List Loc) (ls : Array Slot), 20 - x_2.toInt < (n_8 : Int) → (0 ≤ x_2.toInt ∧ x_2.toInt ≤ 20) → rA ar_3 → fA [76, 77, 78, 79] ar ar_3 → wt_fm G9 (fv_1 8) (ar_3 4) → sW ar_3 → vM fv_1 ar_3 → va_P (dC, dI) vwCl (wsM h ad cA fv_1 wd ar_3) H → va_S (aM h ad s.heap.size) s.heap H locs → lv_has ls 5 [(0, .ref h), (2, .int x_2)] → W p l e R9 s m a9 below meth c H locs 0 0 Q9 (F0 m 7 ls [])) ?_ (fun hj_10 => ?_)
  · intro n_8
    induction n_8 with
    | zero => intro x_2 ar_3 H locs ls fu_9 i_x_2 hA_ar_3 fa_4 hp_5 hp_6 hp_7; exfalso; omega
    | succ n_8 ih_8 =>
      intro x_2 ar_3 H locs ls fu_9 i_x_2 hA_ar_3 fa_4 hp_5 hp_6 hp_7 hP hS hl
      refine lv_iload_n hx hb dX12_goThrough_7 rfl (lv_at hl 1 rfl) ?_
      refine lv_aload_n hx hb dX12_goThrough_8 rfl (lv_at hl 0 rfl) ?_
      refine gM_34 hx hb htg hown hK hP dX12_goThrough_9 ?_
      refine my_ti (y := fv 34) ((congrFun efv_1 34)) ?_
      have i_11 : 0 ≤ (fv 34).toInt ∧ (fv 34).toInt ≤ 20 := hF_fv 34
      refine lv_icmp_ge (tgt := 54) hx hb dX12_goThrough_12 (by decide) (fun c_12 => ?_) (fun c_12 => ?_)
      · skip
        refine lv_iconst (v := 0) hx hb dX12_goThrough_54 (by decide) ?_
        refine lv_istore_n (lv' := [(2, .int 0), (0, .ref h)]) hx hb dX12_goThrough_55 rfl hl (by decide) rfl (fun ls hl => ?_)
        refine my_cut (P := fun R9 a9 Q9 => ∀ (n_29 : Nat) (x_23 : Int32) (ar_24 : Nat → Nat → Int32) (H : Heap) (locs : List Loc) (ls : Array Slot), 40 - x_23.toInt < (n_29 : Int) → (0 ≤ x_23.toInt ∧ x_23.toInt ≤ 40) → rA ar_24 → fA [68, 69, 72, 74, 75] ar_3 ar_24 → wt_fm G9 (fv_1 8) (ar_24 4) → sW ar_24 → vM fv_1 ar_24 → va_P (dC, dI) vwCl (wsM h ad cA fv_1 wd ar_24) H → va_S (aM h ad s.heap.size) s.heap H locs → lv_has ls 5 [(0, .ref h), (2, .int x_23)] → W p l e R9 s m a9 below meth c H locs 0 0 Q9 (F0 m 56 ls [])) ?_ (fun hj_31 => ?_)
        · intro n_29
          induction n_29 with
          | zero => intro x_23 ar_24 H locs ls fu_30 i_x_23 hA_ar_24 fa_25 hp_26 hp_27 hp_28; exfalso; omega
          | succ n_29 ih_29 =>
            intro x_23 ar_24 H locs ls fu_30 i_x_23 hA_ar_24 fa_25 hp_26 hp_27 hp_28 hP hS hl
            refine lv_iload_n hx hb dX12_goThrough_56 rfl (lv_at hl 1 rfl) ?_
            refine lv_aload_n hx hb dX12_goThrough_57 rfl (lv_at hl 0 rfl) ?_
            refine gM_32 hx hb htg hown hK hP dX12_goThrough_58 ?_
            refine my_ti (y := fv 32) ((congrFun efv_1 32)) ?_
            have i_32 : 0 ≤ (fv 32).toInt ∧ (fv 32).toInt ≤ 40 := hF_fv 32
            refine lv_icmp_ge (tgt := 110) hx hb dX12_goThrough_61 (by decide) (fun c_33 => ?_) (fun c_33 => ?_)
            · skip
              refine lv_iconst (v := 0) hx hb dX12_goThrough_110 (by decide) ?_
              refine lv_istore_n (lv' := [(2, .int 0), (0, .ref h)]) hx hb dX12_goThrough_111 rfl hl (by decide) rfl (fun ls hl => ?_)
              refine my_cut (P := fun R9 a9 Q9 => ∀ (n_53 : Nat) (x_47 : Int32) (ar_48 : Nat → Nat → Int32) (H : Heap) (locs : List Loc) (ls : Array Slot), 80 - x_47.toInt < (n_53 : Int) → (0 ≤ x_47.toInt ∧ x_47.toInt ≤ 80) → rA ar_48 → fA [80] ar_24 ar_48 → wt_fm G9 (fv_1 8) (ar_48 4) → sW ar_48 → vM fv_1 ar_48 → va_P (dC, dI) vwCl (wsM h ad cA fv_1 wd ar_48) H → va_S (aM h ad s.heap.size) s.heap H locs → lv_has ls 5 [(0, .ref h), (2, .int x_47)] → W p l e R9 s m a9 below meth c H locs 0 0 Q9 (F0 m 112 ls [])) ?_ (fun hj_55 => ?_)
              · intro n_53
                induction n_53 with
                | zero => intro x_47 ar_48 H locs ls fu_54 i_x_47 hA_ar_48 fa_49 hp_50 hp_51 hp_52; exfalso; omega
                | succ n_53 ih_53 =>
                  intro x_47 ar_48 H locs ls fu_54 i_x_47 hA_ar_48 fa_49 hp_50 hp_51 hp_52 hP hS hl
                  refine lv_iload_n hx hb dX12_goThrough_112 rfl (lv_at hl 1 rfl) ?_
                  refine lv_aload_n hx hb dX12_goThrough_113 rfl (lv_at hl 0 rfl) ?_
                  refine gM_35 hx hb htg hown hK hP dX12_goThrough_114 ?_
                  refine my_ti (y := fv 35) ((congrFun efv_1 35)) ?_
                  have i_56 : 0 ≤ (fv 35).toInt ∧ (fv 35).toInt ≤ 80 := hF_fv 35
                  refine lv_icmp_ge (tgt := 133) hx hb dX12_goThrough_117 (by decide) (fun c_57 => ?_) (fun c_57 => ?_)
                  · skip
                    refine lv_aload_n hx hb dX12_goThrough_133 rfl (lv_at hl 0 rfl) ?_
                    refine va_callv (va_runV (As := []) (rest := []) ⟨hx, hb, hml, hown, hts⟩ (m_orderTrips l dC dI H.size h ad cA hd fv_1 wd ar_48 hF_fv_1 hA_ar_48) (cwV 0 hts (gV kw_8_176 kw_8_178 kw_p_84 kw_1_15 kw_8_179) rfl rfl rfl (by decide +kernel) ⟨Nat.le_of_ble_eq_true rfl, Nat.le_of_ble_eq_true rfl⟩) ⟨fun a U g mk q => ⟨q.1, q.2.1, q.2.2.1, va_K.moved (u := U) (U := U.calling g mk a) (Vm.Alike.refl U.vm) q.2.2.2⟩, va_recv hK hP (ci := 12) (q0 := 0) rfl rfl, fun U hU hW => ⟨rfl, by rw [hU], by rw [hU]; exact hP, va_K.moved hW.alike hK⟩⟩ rfl rfl hl.1 rfl (lv_room (Nat.le_of_ble_eq_true rfl)) dX12_goThrough_134 ⟨Nat.le_of_ble_eq_true rfl, Nat.le_of_ble_eq_true rfl⟩) hS (fun q _ h9 => aM_up hS q h9) (aM_up hS) (fun u t H1 locs ht _ hw hB _ hk1 hS => ?_)
                    obtain ⟨fv_65, wd_66, ar_67⟩ := u
                    obtain ⟨hF_fv_65, hA_ar_67, fr_68, fa_69, -⟩ := hw
                    have hP : va_P (dC, dI) vwCl (wsM h ad cA fv_65 wd_66 ar_67) H1 := by have h9 := hB.1; rw [ht] at h9; exact h9
                    have fr_68 : fM [87] fv_1 fv_65 := fr_68
                    have fa_69 : fA [83] ar_48 ar_67 := fa_69
                    generalize H1 = H at hP hS ⊢
                    refine lv_aload_n hx hb dX12_goThrough_137 rfl (lv_at hl 0 rfl) ?_
                    refine lv_iconst (v := 0) hx hb dX12_goThrough_138 (by decide) ?_
                    refine pM_85 hx hb htg hown hK hP hS hd dX12_goThrough_139 (fun H locs fv_70 efv_70 hP hS => ?_)
                    have hF_fv_70 : rF fv_70 := rF_put hF_fv_65 efv_70 (iv_w (⟨by decide, by decide⟩ : (0 : Int) ≤ (0 : Int32).toInt ∧ (0 : Int32).toInt ≤ 0) (by decide) (by decide))
                    refine my_cut (P := fun R9 a9 Q9 => ∀ (n_80 : Nat) (fv_71 : Nat → Int32) (ar_73 : Nat → Nat → Int32) (wd_75 : Int64) (H : Heap) (locs : List Loc) (ls : Array Slot), 840 - (fv_71 85).toInt < (n_80 : Int) → rF fv_71 → fM [8, 36, 66, 85] fv_70 fv_71 → rA ar_73 → fA [4, 15, 16, 18, 24, 64, 65, 68, 69, 70, 71, 72, 74, 75, 76, 77, 78, 79, 80, 82] ar_67 ar_73 → wt_fm G9 (fv_71 8) (ar_73 4) → sW ar_73 → vM fv_71 ar_73 → (0 ≤ (fv_71 85).toInt ∧ (fv_71 85).toInt ≤ 840) → va_P (dC, dI) vwCl (wsM h ad cA fv_71 wd_75 ar_73) H → va_S (aM h ad s.heap.size) s.heap H locs → lv_has ls 5 [(0, .ref h)] → W p l e R9 s m a9 below meth c H locs 0 0 Q9 (F0 m 142 ls [])) ?_ (fun hj_82 => ?_)
                    · intro n_80
                      induction n_80 with
                      | zero => intro fv_71 ar_73 wd_75 H locs ls fu_81 hF_fv_71 fr_72 hA_ar_73 fa_74 hp_76 hp_77 hp_78 q_79; exfalso; omega
                      | succ n_80 ih_80 =>
                        intro fv_71 ar_73 wd_75 H locs ls fu_81 hF_fv_71 fr_72 hA_ar_73 fa_74 hp_76 hp_77 hp_78 q_79 hP hS hl
                        refine lv_aload_n hx hb dX12_goThrough_142 rfl (lv_at hl 0 rfl) ?_
                        refine gM_85 hx hb htg hown hK hP dX12_goThrough_143 ?_
                        have i_83 : 0 ≤ (fv_71 85).toInt ∧ (fv_71 85).toInt ≤ 840 := hF_fv_71 85
                        refine lv_sipush (v := 839) hx hb dX12_goThrough_146 (by decide) ?_
                        refine lv_icmp_gt (tgt := 169) hx hb dX12_goThrough_149 (by decide) (fun c_84 => ?_) (fun c_84 => ?_)
                        · skip
                          have i_85 : 840 ≤ (fv_71 85).toInt ∧ (fv_71 85).toInt ≤ 840 := iv_lt2 (⟨by decide, by decide⟩ : (839 : Int) ≤ (839 : Int32).toInt ∧ (839 : Int32).toInt ≤ 839) i_83 c_84
                          refine lv_aload_n hx hb dX12_goThrough_169 rfl (lv_at hl 0 rfl) ?_
                          have z_99 : (fv_71 58).toInt = (fv 58).toInt := congrArg Int32.toInt ((fr_72 58 rfl).trans ((congrFun efv_70 58).trans ((fr_68 58 rfl).trans ((congrFun efv_1 58)))))
                          have z_100 : 0 ≤ (fv_71 58).toInt ∧ (fv_71 58).toInt ≤ 10 := hF_fv_71 58
                          refine va_calli (va_runV (As := []) (rest := []) ⟨hx, hb, hml, hown, hts⟩ (m_bylawNow l dC dI H.size h ad cA hd fv_71 wd_75 ar_73 hF_fv_71 hA_ar_73) (cwV 0 hts (gV kw_8_153 kw_8_155 kw_p_81 kw_1_15 kw_8_156) rfl rfl rfl (by decide +kernel) ⟨Nat.le_of_ble_eq_true rfl, Nat.le_of_ble_eq_true rfl⟩) ⟨fun a U g mk q => ⟨q.1, q.2.1, q.2.2.1, va_K.moved (u := U) (U := U.calling g mk a) (Vm.Alike.refl U.vm) q.2.2.2⟩, va_recv hK hP (ci := 12) (q0 := 0) rfl rfl, fun U hU hW => ⟨rfl, by rw [hU], by rw [hU]; exact hP, va_K.moved hW.alike hK⟩⟩ rfl rfl hl.1 rfl (lv_room (Nat.le_of_ble_eq_true rfl)) dX12_goThrough_170 ⟨Nat.le_of_ble_eq_true rfl, Nat.le_of_ble_eq_true rfl⟩) hS (fun q _ h9 => aM_up hS q h9) (aM_up hS) (fun r_101 u t H1 locs ht _ hw hB _ hk1 hS => ?_)
                          obtain ⟨fv_104, wd_105, ar_106⟩ := u
                          obtain ⟨hF_fv_104, hA_ar_106, fr_107, fa_108, p_102, p_103, -⟩ := hw
                          have hP : va_P (dC, dI) vwCl (wsM h ad cA fv_104 wd_105 ar_106) H1 := by have h9 := hB.1; rw [ht] at h9; exact h9
                          have fr_107 : fM [] fv_71 fv_104 := fr_107
                          have fa_108 : fA [] ar_73 ar_106 := fa_108
                          have p_103 : r_101.toInt < (fv_71 58).toInt := p_103
                          generalize H1 = H at hP hS ⊢
                          refine lv_istore_n (lv' := [(2, .int r_101), (0, .ref h)]) hx hb dX12_goThrough_173 rfl hl (by decide) rfl (fun ls hl => ?_)
                          refine lv_iconst (v := 0) hx hb dX12_goThrough_174 (by decide) ?_
                          refine lv_istore_n (lv' := [(3, .int 0), (2, .int r_101), (0, .ref h)]) hx hb dX12_goThrough_175 rfl hl (by decide) rfl (fun ls hl => ?_)
                          refine my_cut (P := fun R9 a9 Q9 => ∀ (n_115 : Nat) (x_109 : Int32) (ar_110 : Nat → Nat → Int32) (H : Heap) (locs : List Loc) (ls : Array Slot), 40 - x_109.toInt < (n_115 : Int) → (0 ≤ x_109.toInt ∧ x_109.toInt ≤ 40) → rA ar_110 → fA [16, 73] ar_106 ar_110 → wt_fm G9 (fv_104 8) (ar_110 4) → sW ar_110 → vM fv_104 ar_110 → va_P (dC, dI) vwCl (wsM h ad cA fv_104 wd_105 ar_110) H → va_S (aM h ad s.heap.size) s.heap H locs → lv_has ls 5 [(0, .ref h), (2, .int r_101), (3, .int x_109)] → W p l e R9 s m a9 below meth c H locs 0 0 Q9 (F0 m 176 ls [])) ?_ (fun hj_117 => ?_)
                          · intro n_115
                            induction n_115 with
                            | zero => intro x_109 ar_110 H locs ls fu_116 i_x_109 hA_ar_110 fa_111 hp_112 hp_113 hp_114; exfalso; omega
                            | succ n_115 ih_115 =>
                              intro x_109 ar_110 H locs ls fu_116 i_x_109 hA_ar_110 fa_111 hp_112 hp_113 hp_114 hP hS hl
                              refine lv_iload_n hx hb dX12_goThrough_176 rfl (lv_at hl 2 rfl) ?_
                              refine lv_aload_n hx hb dX12_goThrough_177 rfl (lv_at hl 0 rfl) ?_
                              refine gM_32 hx hb htg hown hK hP dX12_goThrough_178 ?_
                              refine my_ti (y := fv 32) ((fr_107 32 rfl).trans ((fr_72 32 rfl).trans ((congrFun efv_70 32).trans ((fr_68 32 rfl).trans ((congrFun efv_1 32)))))) ?_
                              refine lv_icmp_ge (tgt := 324) hx hb dX12_goThrough_181 (by decide) (fun c_118 => ?_) (fun c_118 => ?_)
                              · skip
                                refine lv_aload_n hx hb dX12_goThrough_324 rfl (lv_at hl 0 rfl) ?_
                                refine lv_iconst (v := (-1)) hx hb dX12_goThrough_325 (by decide) ?_
                                refine pM_84 hx hb htg hown hK hP hS hd dX12_goThrough_326 (fun H locs fv_119 efv_119 hP hS => ?_)
                                have hF_fv_119 : rF fv_119 := rF_put hF_fv_104 efv_119 (iv_any _)
                                exact W.vret hx hb hr (fun t ht hW => ⟨⟨(fv_119, wd_105, ar_110), rfl, ⟨hF_fv_119, hA_ar_110, (fM_put (fM_call (fM_call (fM_put (fM_call (fM_put (fM_rf [8, 36, 66, 84, 85, 87] _) efv_1 (by decide)) fr_68 (by decide)) efv_70 (by decide)) fr_72 (by decide)) fr_107 (by decide)) efv_119 (by decide)), (fA_call (fA_call (fA_call (fA_call (fA_call (fA_call (fA_call (fA_rf [4, 15, 16, 18, 24, 64, 65, 68, 69, 70, 71, 72, 73, 74, 75, 76, 77, 78, 79, 80, 82, 83] _) fa_4 (by decide)) fa_25 (by decide)) fa_49 (by decide)) fa_69 (by decide)) fa_74 (by decide)) fa_108 (by decide)) fa_111 (by decide)), hp_113, (mF_fr hp_112 (fM_put (fM_rf [84] _) efv_119 (by decide)) (fA_rf [] _) rfl rfl), trivial⟩, ⟨by rw [ht]; exact hP, va_K.moved hW.alike hK⟩⟩, hS.F ht⟩) hS.2.2 dX12_goThrough_329
                              · skip
                                have i_120 : 0 ≤ x_109.toInt ∧ x_109.toInt ≤ 39 := iv_lt1 i_x_109 i_32 (Int32.not_le.mp c_118)
                                have i_121 : 1 ≤ (fv 32).toInt ∧ (fv 32).toInt ≤ 40 := iv_lt2 i_x_109 i_32 (Int32.not_le.mp c_118)
                                refine lv_aload_n hx hb dX12_goThrough_184 rfl (lv_at hl 0 rfl) ?_
                                refine gM_73 hx hb htg hown hK hP dX12_goThrough_185 ?_
                                refine lv_iload_n hx hb dX12_goThrough_188 rfl (lv_at hl 2 rfl) ?_
                                refine lv_aload_n hx hb dX12_goThrough_189 rfl (lv_at hl 0 rfl) ?_
                                refine gM_72 hx hb htg hown hK hP dX12_goThrough_190 ?_
                                refine lv_iload_n hx hb dX12_goThrough_193 rfl (lv_at hl 2 rfl) ?_
                                refine lM_72 hx hb hK hP (iv_in i_120 (by decide) (by decide)) dX12_goThrough_194 (fun v_122 ev_122 => ?_)
                                refine lv_iconst (v := (-1)) hx hb dX12_goThrough_195 (by decide) ?_
                                refine my_cut (P := fun R9 a9 Q9 => ∀ (x_135 : Int32) (H : Heap) (locs : List Loc) (ls : Array Slot), va_P (dC, dI) vwCl (wsM h ad cA fv_104 wd_105 ar_110) H → va_S (aM h ad s.heap.size) s.heap H locs → lv_has ls 5 [(0, .ref h), (2, .int r_101), (3, .int x_109)] → W p l e R9 s m a9 below meth c H locs 0 0 Q9 (F0 m 244 ls [.int x_135, .int x_109, .ref (ad 73)])) ?_ (fun hj_136 => ?_)
                                · intro x_135 H locs ls  hP hS hl
                                  refine sM_73 hx hb hK hP hS hd (iv_in i_120 (by decide) (by decide)) dX12_goThrough_244 (fun H locs ar_137 ear_137 hP hS => ?_)
                                  have hA_ar_137 : rA ar_137 := rA_put hA_ar_110 ear_137 (iv_any _)
                                  refine lv_aload_n hx hb dX12_goThrough_245 rfl (lv_at hl 0 rfl) ?_
                                  refine gM_11 hx hb htg hown hK hP dX12_goThrough_246 ?_
                                  refine lv_iload_n hx hb dX12_goThrough_249 rfl (lv_at hl 2 rfl) ?_
                                  refine lM_11 hx hb hK hP (iv_in i_120 (by decide) (by decide)) dX12_goThrough_250 (fun v_138 ev_138 => ?_)
                                  refine lv_iload_n hx hb dX12_goThrough_251 rfl (lv_at hl 1 rfl) ?_
                                  refine lv_iconst (v := (-1)) hx hb dX12_goThrough_252 (by decide) ?_
                                  refine my_cut (P := fun R9 a9 Q9 => ∀ (x_143 : Int32) (H : Heap) (locs : List Loc) (ls : Array Slot), va_P (dC, dI) vwCl (wsM h ad cA fv_104 wd_105 ar_137) H → va_S (aM h ad s.heap.size) s.heap H locs → lv_has ls 5 [(0, .ref h), (2, .int r_101), (3, .int x_109)] → W p l e R9 s m a9 below meth c H locs 0 0 Q9 (F0 m 266 ls [.int x_143, .int v_138])) ?_ (fun hj_144 => ?_)
                                  · intro x_143 H locs ls  hP hS hl
                                    refine lv_aload_n hx hb dX12_goThrough_266 rfl (lv_at hl 0 rfl) ?_
                                    refine gM_73 hx hb htg hown hK hP dX12_goThrough_267 ?_
                                    refine lv_iload_n hx hb dX12_goThrough_270 rfl (lv_at hl 2 rfl) ?_
                                    refine lM_73 hx hb hK hP (iv_in i_120 (by decide) (by decide)) dX12_goThrough_271 (fun v_145 ev_145 => ?_)
                                    refine lv_bipush (v := 10) hx hb dX12_goThrough_272 (by decide) ?_
                                    refine lv_idiv hx hb dX12_goThrough_274 (by decide) ?_
                                    refine lv_topi (fun v_146 ev_146 => ?_)
                                    refine lv_imul hx hb dX12_goThrough_275 ?_
                                    refine lv_topi (fun v_147 ev_147 => ?_)
                                    refine lv_isub hx hb dX12_goThrough_276 ?_
                                    refine lv_topi (fun v_148 ev_148 => ?_)
                                    refine lv_istore (lv' := [(4, .int v_148), (0, .ref h), (2, .int r_101), (3, .int x_109)]) hx hb dX12_goThrough_277 hl (by decide) rfl (fun ls hl => ?_)
                                    refine lv_aload_n hx hb dX12_goThrough_279 rfl (lv_at hl 1 rfl) ?_
                                    refine gM_16 hx hb htg hown hK hP dX12_goThrough_280 ?_
                                    refine lv_iload_n hx hb dX12_goThrough_283 rfl (lv_at hl 3 rfl) ?_
                                    refine lv_dup2_11 hx hb dX12_goThrough_284 rfl rfl ?_
                                    refine lM_16 hx hb hK hP (iv_in i_120 (by decide) (by decide)) dX12_goThrough_285 (fun v_149 ev_149 => ?_)
                                    refine lv_iload hx hb dX12_goThrough_286 (lv_at hl 0 rfl) ?_
                                    refine my_cut (P := fun R9 a9 Q9 => ∀ (x_153 : Int32) (H : Heap) (locs : List Loc) (ls : Array Slot), (0 ≤ x_153.toInt ∧ x_153.toInt ≤ 2147483647) → va_P (dC, dI) vwCl (wsM h ad cA fv_104 wd_105 ar_137) H → va_S (aM h ad s.heap.size) s.heap H locs → lv_has ls 5 [(0, .ref h), (2, .int r_101), (3, .int x_109)] → W p l e R9 s m a9 below meth c H locs 0 0 Q9 (F0 m 297 ls [.int x_153, .int v_149, .int x_109, .ref (ad 16)])) ?_ (fun hj_154 => ?_)
                                    · intro x_153 H locs ls i_x_153 hP hS hl
                                      refine lv_iadd hx hb dX12_goThrough_297 ?_
                                      refine lv_topi (fun v_155 ev_155 => ?_)
                                      refine sM_16 hx hb hK hP hS hd (iv_in i_120 (by decide) (by decide)) dX12_goThrough_298 (fun H locs ar_156 ear_156 hP hS => ?_)
                                      have hA_ar_156 : rA ar_156 := rA_put hA_ar_137 ear_156 (iv_any _)
                                      refine lv_aload_n hx hb dX12_goThrough_299 rfl (lv_at hl 0 rfl) ?_
                                      refine gM_16 hx hb htg hown hK hP dX12_goThrough_300 ?_
                                      refine lv_iload_n hx hb dX12_goThrough_303 rfl (lv_at hl 2 rfl) ?_
                                      refine lM_16 hx hb hK hP (iv_in i_120 (by decide) (by decide)) dX12_goThrough_304 (fun v_157 ev_157 => ?_)
                                      refine lv_ldc hx hb hown (htg (.constant RX12 225 100000) kw_7_232) dX12_goThrough_305 ?_
                                      refine my_cut (P := fun R9 a9 Q9 => ∀ (ar_162 : Nat → Nat → Int32) (H : Heap) (locs : List Loc) (ls : Array Slot), rA ar_162 → fA [16] ar_156 ar_162 → wt_fm G9 (fv_104 8) (ar_162 4) → sW ar_162 → vM fv_104 ar_162 → va_P (dC, dI) vwCl (wsM h ad cA fv_104 wd_105 ar_162) H → va_S (aM h ad s.heap.size) s.heap H locs → lv_has ls 5 [(0, .ref h), (2, .int r_101), (3, .int x_109)] → W p l e R9 s m a9 below meth c H locs 0 0 Q9 (F0 m 318 ls [])) ?_ (fun hj_167 => ?_)
                                      · intro ar_162 H locs ls hA_ar_162 fa_163 hp_164 hp_165 hp_166 hP hS hl
                                        obtain ⟨v_168, ev_168⟩ : ∃ z : Int32, z = x_109 + 1 := ⟨_, rfl⟩
                                        refine lv_iinc (v := v_168) (lv' := [(3, .int v_168), (0, .ref h), (2, .int r_101)]) hx hb dX12_goThrough_318 hl (k := 2) rfl (by rw [ev_168]; rfl) (by decide) rfl (fun ls hl => ?_)
                                        have t_169 : v_168.toInt = x_109.toInt + 1 ∧ 1 ≤ v_168.toInt ∧ v_168.toInt ≤ 40 := iv_addc ev_168 i_120 (by decide) (by decide) (by decide)
                                        refine lv_goto (tgt := 176) hx hb dX12_goThrough_321 (by decide) ?_
                                        exact ih_115 v_168 ar_162 _ _ ls (by omega) (iv_w t_169.2 (by decide) (by decide)) hA_ar_162 (fA_call (fA_put (fA_put (fA_call (fA_rf [16, 73] _) fa_111 (by decide)) ear_137 (by decide)) ear_156 (by decide)) fa_163 (by decide)) hp_164 hp_165 hp_166 hP hS (lv_sub hl [1, 2, 0] rfl)
                                      · skip
                                        refine lv_icmp_le (tgt := 318) hx hb dX12_goThrough_307 (by decide) (fun c_158 => ?_) (fun c_158 => ?_)
                                        · skip
                                          have i_159 : (-2147483648) ≤ v_157.toInt ∧ v_157.toInt ≤ 100000 := iv_le1 (iv_any v_157) (⟨by decide, by decide⟩ : (100000 : Int) ≤ (100000 : Int32).toInt ∧ (100000 : Int32).toInt ≤ 100000) c_158
                                          exact hj_167 ar_156 _ _ ls hA_ar_156 (fA_rf [16] _) (mF_fr (mF_fr hp_112 (fM_rf [] _) (fA_put (fA_rf [73] _) ear_137 (by decide)) rfl rfl) (fM_rf [] _) (fA_put (fA_rf [16] _) ear_156 (by decide)) rfl rfl) (sW_fr (sW_fr hp_113 (fA_put (fA_rf [73] _) ear_137 (by decide)) rfl rfl) (fA_put (fA_rf [16] _) ear_156 (by decide)) rfl rfl) (vM_fr (vM_fr hp_114 (fM_rf [] _) (fA_put (fA_rf [73] _) ear_137 (by decide)) rfl rfl rfl rfl rfl) (fM_rf [] _) (fA_put (fA_rf [16] _) ear_156 (by decide)) rfl rfl rfl rfl rfl) hP hS (lv_sub hl [0, 1, 2] rfl)
                                        · skip
                                          have i_160 : 100001 ≤ v_157.toInt ∧ v_157.toInt ≤ 2147483647 := iv_lt2 (⟨by decide, by decide⟩ : (100000 : Int) ≤ (100000 : Int32).toInt ∧ (100000 : Int32).toInt ≤ 100000) (iv_any v_157) (Int32.not_le.mp c_158)
                                          refine lv_aload_n hx hb dX12_goThrough_310 rfl (lv_at hl 0 rfl) ?_
                                          refine gM_16 hx hb htg hown hK hP dX12_goThrough_311 ?_
                                          refine lv_iload_n hx hb dX12_goThrough_314 rfl (lv_at hl 2 rfl) ?_
                                          refine lv_ldc hx hb hown (htg (.constant RX12 225 100000) kw_7_232) dX12_goThrough_315 ?_
                                          refine sM_16 hx hb hK hP hS hd (iv_in i_120 (by decide) (by decide)) dX12_goThrough_317 (fun H locs ar_161 ear_161 hP hS => ?_)
                                          have hA_ar_161 : rA ar_161 := rA_put hA_ar_156 ear_161 (iv_any _)
                                          exact hj_167 ar_161 _ _ ls hA_ar_161 (fA_put (fA_rf [16] _) ear_161 (by decide)) (mF_fr (mF_fr hp_112 (fM_rf [] _) (fA_put (fA_rf [73] _) ear_137 (by decide)) rfl rfl) (fM_rf [] _) (fA_put (fA_put (fA_rf [16] _) ear_156 (by decide)) ear_161 (by decide)) rfl rfl) (sW_fr (sW_fr hp_113 (fA_put (fA_rf [73] _) ear_137 (by decide)) rfl rfl) (fA_put (fA_put (fA_rf [16] _) ear_156 (by decide)) ear_161 (by decide)) rfl rfl) (vM_fr (vM_fr hp_114 (fM_rf [] _) (fA_put (fA_rf [73] _) ear_137 (by decide)) rfl rfl rfl rfl rfl) (fM_rf [] _) (fA_put (fA_put (fA_rf [16] _) ear_156 (by decide)) ear_161 (by decide)) rfl rfl rfl rfl rfl) hP hS (lv_sub hl [0, 1, 2] rfl)
                                    · skip
                                      refine lv_if_ge (tgt := 295) hx hb dX12_goThrough_288 (by decide) (fun c_150 => ?_) (fun c_150 => ?_)
                                      · skip
                                        have i_151 : 0 ≤ v_148.toInt ∧ v_148.toInt ≤ 2147483647 := iv_le2 (⟨by decide, by decide⟩ : (0 : Int) ≤ (0 : Int32).toInt ∧ (0 : Int32).toInt ≤ 0) (iv_any v_148) c_150
                                        refine lv_iload hx hb dX12_goThrough_295 (lv_at hl 0 rfl) ?_
                                        exact hj_154 v_148 _ _ ls i_151 hP hS (lv_sub hl [1, 2, 3] rfl)
                                      · skip
                                        have i_152 : (-2147483648) ≤ v_148.toInt ∧ v_148.toInt ≤ (-1) := iv_lt1 (iv_any v_148) (⟨by decide, by decide⟩ : (0 : Int) ≤ (0 : Int32).toInt ∧ (0 : Int32).toInt ≤ 0) (Int32.not_le.mp c_150)
                                        refine lv_iconst (v := 0) hx hb dX12_goThrough_291 (by decide) ?_
                                        refine lv_goto (tgt := 297) hx hb dX12_goThrough_292 (by decide) ?_
                                        exact hj_154 0 _ _ ls (iv_w (⟨by decide, by decide⟩ : (0 : Int) ≤ (0 : Int32).toInt ∧ (0 : Int32).toInt ≤ 0) (by decide) (by decide)) hP hS (lv_sub hl [1, 2, 3] rfl)
                                  · skip
                                    refine lv_icmp_ne (tgt := 260) hx hb dX12_goThrough_253 (by decide) (fun c_139 => ?_) (fun c_139 => ?_)
                                    · skip
                                      have i_140 : 0 ≤ r_101.toInt ∧ r_101.toInt ≤ 9 := iv_nel p_102 (by decide) c_139
                                      refine lv_aload_n hx hb dX12_goThrough_260 rfl (lv_at hl 0 rfl) ?_
                                      refine gM_48 hx hb htg hown hK hP dX12_goThrough_261 ?_
                                      refine lv_iload_n hx hb dX12_goThrough_264 rfl (lv_at hl 1 rfl) ?_
                                      refine lM_48 hx hb hK hP (iv_in i_140 (by decide) (by decide)) dX12_goThrough_265 (fun v_141 ev_141 => ?_)
                                      exact hj_144 v_141 _ _ ls  hP hS (lv_sub hl [0, 1, 2] rfl)
                                    · skip
                                      have i_142 : (-1) ≤ r_101.toInt ∧ r_101.toInt ≤ (-1) := iv_eq1 (⟨by decide, by decide⟩ : (-1 : Int) ≤ ((-1) : Int32).toInt ∧ ((-1) : Int32).toInt ≤ -1) c_139
                                      refine lv_iconst (v := 0) hx hb dX12_goThrough_256 (by decide) ?_
                                      refine lv_goto (tgt := 266) hx hb dX12_goThrough_257 (by decide) ?_
                                      exact hj_144 0 _ _ ls  hP hS (lv_sub hl [0, 1, 2] rfl)
                                · skip
                                  refine lv_icmp_ne (tgt := 212) hx hb dX12_goThrough_196 (by decide) (fun c_123 => ?_) (fun c_123 => ?_)
                                  · skip
                                    refine lv_aload_n hx hb dX12_goThrough_212 rfl (lv_at hl 0 rfl) ?_
                                    refine gM_72 hx hb htg hown hK hP dX12_goThrough_213 ?_
                                    refine lv_iload_n hx hb dX12_goThrough_216 rfl (lv_at hl 2 rfl) ?_
                                    refine lM_72 hx hb hK hP (iv_in i_120 (by decide) (by decide)) dX12_goThrough_217 (fun v_124 ev_124 => ?_)
                                    obtain rfl : v_122 = v_124 := ev_122.trans ev_124.symm
                                    refine lv_aload_n hx hb dX12_goThrough_218 rfl (lv_at hl 0 rfl) ?_
                                    refine gM_13 hx hb htg hown hK hP dX12_goThrough_219 ?_
                                    refine lv_iload_n hx hb dX12_goThrough_222 rfl (lv_at hl 2 rfl) ?_
                                    refine lM_13 hx hb hK hP (iv_in i_120 (by decide) (by decide)) dX12_goThrough_223 (fun v_125 ev_125 => ?_)
                                    refine lv_icmp_le (tgt := 243) hx hb dX12_goThrough_224 (by decide) (fun c_126 => ?_) (fun c_126 => ?_)
                                    · skip
                                      refine lv_iconst (v := 0) hx hb dX12_goThrough_243 (by decide) ?_
                                      exact hj_136 0 _ _ ls  hP hS (lv_sub hl [0, 1, 2] rfl)
                                    · skip
                                      have i_127 : (-2147483648) ≤ v_125.toInt ∧ v_125.toInt ≤ 2147483646 := iv_lt1 (iv_any v_125) (iv_any v_122) (Int32.not_le.mp c_126)
                                      have i_128 : (-2147483647) ≤ v_122.toInt ∧ v_122.toInt ≤ 2147483647 := iv_lt2 (iv_any v_125) (iv_any v_122) (Int32.not_le.mp c_126)
                                      refine lv_aload_n hx hb dX12_goThrough_227 rfl (lv_at hl 0 rfl) ?_
                                      refine gM_72 hx hb htg hown hK hP dX12_goThrough_228 ?_
                                      refine lv_iload_n hx hb dX12_goThrough_231 rfl (lv_at hl 2 rfl) ?_
                                      refine lM_72 hx hb hK hP (iv_in i_120 (by decide) (by decide)) dX12_goThrough_232 (fun v_129 ev_129 => ?_)
                                      obtain rfl : v_122 = v_129 := ev_122.trans ev_129.symm
                                      refine lv_aload_n hx hb dX12_goThrough_233 rfl (lv_at hl 0 rfl) ?_
                                      refine gM_13 hx hb htg hown hK hP dX12_goThrough_234 ?_
                                      refine lv_iload_n hx hb dX12_goThrough_237 rfl (lv_at hl 2 rfl) ?_
                                      refine lM_13 hx hb hK hP (iv_in i_120 (by decide) (by decide)) dX12_goThrough_238 (fun v_130 ev_130 => ?_)
                                      obtain rfl : v_125 = v_130 := ev_125.trans ev_130.symm
                                      refine lv_isub hx hb dX12_goThrough_239 ?_
                                      refine lv_topi (fun v_131 ev_131 => ?_)
                                      refine lv_goto (tgt := 244) hx hb dX12_goThrough_240 (by decide) ?_
                                      exact hj_136 v_131 _ _ ls  hP hS (lv_sub hl [0, 1, 2] rfl)
                                  · skip
                                    have i_132 : (-1) ≤ v_122.toInt ∧ v_122.toInt ≤ (-1) := iv_eq1 (⟨by decide, by decide⟩ : (-1 : Int) ≤ ((-1) : Int32).toInt ∧ ((-1) : Int32).toInt ≤ -1) c_123
                                    refine lv_sipush (v := 840) hx hb dX12_goThrough_199 (by decide) ?_
                                    refine lv_aload_n hx hb dX12_goThrough_202 rfl (lv_at hl 0 rfl) ?_
                                    refine gM_13 hx hb htg hown hK hP dX12_goThrough_203 ?_
                                    refine lv_iload_n hx hb dX12_goThrough_206 rfl (lv_at hl 2 rfl) ?_
                                    refine lM_13 hx hb hK hP (iv_in i_120 (by decide) (by decide)) dX12_goThrough_207 (fun v_133 ev_133 => ?_)
                                    refine lv_isub hx hb dX12_goThrough_208 ?_
                                    refine lv_topi (fun v_134 ev_134 => ?_)
                                    refine lv_goto (tgt := 244) hx hb dX12_goThrough_209 (by decide) ?_
                                    exact hj_136 v_134 _ _ ls  hP hS (lv_sub hl [0, 1, 2] rfl)
                          · skip
                            have z_171 : (0 : Int32).toInt = 0 := by decide
                            exact hj_117 41 0 ar_106 _ _ ls (by first | decide | omega) (iv_w (⟨by decide, by decide⟩ : (0 : Int) ≤ (0 : Int32).toInt ∧ (0 : Int32).toInt ≤ 0) (by decide) (by decide)) hA_ar_106 (fA_rf [16, 73] _) (mF_fr hp_76 (fM_call (fM_rf [] _) fr_107 (by decide)) (fA_call (fA_rf [] _) fa_108 (by decide)) rfl rfl) (sW_fr hp_77 (fA_call (fA_rf [] _) fa_108 (by decide)) rfl rfl) (vM_fr hp_78 (fM_call (fM_rf [] _) fr_107 (by decide)) (fA_call (fA_rf [] _) fa_108 (by decide)) rfl rfl rfl rfl rfl) hP hS (lv_sub hl [2, 1, 0] rfl)
                        · skip
                          have i_86 : 0 ≤ (fv_71 85).toInt ∧ (fv_71 85).toInt ≤ 839 := iv_le1 i_83 (⟨by decide, by decide⟩ : (839 : Int) ≤ (839 : Int32).toInt ∧ (839 : Int32).toInt ≤ 839) (Int32.not_lt.mp c_84)
                          refine lv_aload_n hx hb dX12_goThrough_152 rfl (lv_at hl 0 rfl) ?_
                          refine va_callv (va_runV (As := []) (rest := []) ⟨hx, hb, hml, hown, hts⟩ (m_step l dC dI H.size h ad cA hd fv_71 wd_75 ar_73 hF_fv_71 hA_ar_73 G9 hp_77 hp_78 hp_76) (cwV 0 hts (gV kw_8_184 kw_8_186 kw_p_86 kw_1_15 kw_8_187) rfl rfl rfl (by decide +kernel) ⟨Nat.le_of_ble_eq_true rfl, Nat.le_of_ble_eq_true rfl⟩) ⟨fun a U g mk q => ⟨q.1, q.2.1, q.2.2.1, va_K.moved (u := U) (U := U.calling g mk a) (Vm.Alike.refl U.vm) q.2.2.2⟩, va_recv hK hP (ci := 12) (q0 := 0) rfl rfl, fun U hU hW => ⟨rfl, by rw [hU], by rw [hU]; exact hP, va_K.moved hW.alike hK⟩⟩ rfl rfl hl.1 rfl (lv_room (Nat.le_of_ble_eq_true rfl)) dX12_goThrough_153 ⟨Nat.le_of_ble_eq_true rfl, Nat.le_of_ble_eq_true rfl⟩) hS (fun q _ h9 => aM_up hS q h9) (aM_up hS) (fun u t H1 locs ht _ hw hB _ hk1 hS => ?_)
                          obtain ⟨fv_90, wd_91, ar_92⟩ := u
                          obtain ⟨hF_fv_90, hA_ar_92, fr_93, fa_94, p_88, p_89, -⟩ := hw
                          have hP : va_P (dC, dI) vwCl (wsM h ad cA fv_90 wd_91 ar_92) H1 := by have h9 := hB.1; rw [ht] at h9; exact h9
                          have fr_93 : fM [8, 36, 66] fv_71 fv_90 := fr_93
                          have fa_94 : fA [4, 15, 16, 18, 24, 64, 65, 68, 69, 70, 71, 72, 74, 75, 76, 77, 78, 79, 80, 82] ar_73 ar_92 := fa_94
                          have p_88 : sW ar_92 := p_88
                          have p_89 : wt_fm G9 (fv_90 8) (ar_92 4) := p_89
                          generalize H1 = H at hP hS ⊢
                          refine lv_aload_n hx hb dX12_goThrough_156 rfl (lv_at hl 0 rfl) ?_
                          refine lv_dup hx hb dX12_goThrough_157 rfl ?_
                          refine gM_85 hx hb htg hown hK hP dX12_goThrough_158 ?_
                          refine my_ti (y := fv_71 85) ((fr_93 85 rfl)) ?_
                          refine lv_iconst (v := 1) hx hb dX12_goThrough_161 (by decide) ?_
                          refine lv_iadd hx hb dX12_goThrough_162 ?_
                          refine lv_topi (fun v_95 ev_95 => ?_)
                          have t_96 : v_95.toInt = (fv_71 85).toInt + 1 ∧ 1 ≤ v_95.toInt ∧ v_95.toInt ≤ 840 := iv_addc ev_95 i_86 (by decide) (by decide) (by decide)
                          refine pM_85 hx hb htg hown hK hP hS hd dX12_goThrough_163 (fun H locs fv_98 efv_98 hP hS => ?_)
                          have hF_fv_98 : rF fv_98 := rF_put hF_fv_90 efv_98 (iv_w t_96.2 (by decide) (by decide))
                          refine lv_goto (tgt := 142) hx hb dX12_goThrough_166 (by decide) ?_
                          have z_172 : (fv_98 85).toInt = v_95.toInt := congrArg Int32.toInt ((congrFun efv_98 85))
                          have z_173 : 0 ≤ (fv_98 85).toInt ∧ (fv_98 85).toInt ≤ 840 := hF_fv_98 85
                          exact ih_80 fv_98 ar_92 wd_91 _ _ ls (by omega) hF_fv_98 (fM_put (fM_call (fM_call (fM_rf [8, 36, 66, 85] _) fr_72 (by decide)) fr_93 (by decide)) efv_98 (by decide)) hA_ar_92 (fA_call (fA_call (fA_rf [4, 15, 16, 18, 24, 64, 65, 68, 69, 70, 71, 72, 74, 75, 76, 77, 78, 79, 80, 82] _) fa_74 (by decide)) fa_94 (by decide)) (mF_fr p_89 (fM_put (fM_rf [85] _) efv_98 (by decide)) (fA_rf [] _) rfl rfl) p_88 (vM_fr hp_78 (fM_put (fM_call (fM_rf [8, 36, 66, 85] _) fr_93 (by decide)) efv_98 (by decide)) (fA_call (fA_rf [4, 15, 16, 18, 24, 64, 65, 68, 69, 70, 71, 72, 74, 75, 76, 77, 78, 79, 80, 82] _) fa_94 (by decide)) rfl rfl rfl rfl rfl) (by omega) hP hS (lv_sub hl [0] rfl)
                    · skip
                      have z_174 : (fv_70 85).toInt = (0 : Int32).toInt := congrArg Int32.toInt ((congrFun efv_70 85))
                      have z_175 : (0 : Int32).toInt = 0 := by decide
                      have z_176 : 0 ≤ (fv_70 85).toInt ∧ (fv_70 85).toInt ≤ 840 := hF_fv_70 85
                      exact hj_82 841 fv_70 ar_67 wd_66 _ _ ls (by omega) hF_fv_70 (fM_rf [8, 36, 66, 85] _) hA_ar_67 (fA_rf [4, 15, 16, 18, 24, 64, 65, 68, 69, 70, 71, 72, 74, 75, 76, 77, 78, 79, 80, 82] _) (mF_fr hp_50 (fM_put (fM_call (fM_rf [85, 87] _) fr_68 (by decide)) efv_70 (by decide)) (fA_call (fA_rf [83] _) fa_69 (by decide)) rfl rfl) (sW_fr hp_51 (fA_call (fA_rf [83] _) fa_69 (by decide)) rfl rfl) (vM_fr hp_52 (fM_put (fM_call (fM_rf [85, 87] _) fr_68 (by decide)) efv_70 (by decide)) (fA_call (fA_rf [83] _) fa_69 (by decide)) rfl rfl rfl rfl rfl) (by omega) hP hS (lv_sub hl [0] rfl)
                  · skip
                    have i_58 : 0 ≤ x_47.toInt ∧ x_47.toInt ≤ 79 := iv_lt1 i_x_47 i_56 (Int32.not_le.mp c_57)
                    have i_59 : 1 ≤ (fv 35).toInt ∧ (fv 35).toInt ≤ 80 := iv_lt2 i_x_47 i_56 (Int32.not_le.mp c_57)
                    refine lv_aload_n hx hb dX12_goThrough_120 rfl (lv_at hl 0 rfl) ?_
                    refine gM_80 hx hb htg hown hK hP dX12_goThrough_121 ?_
                    refine lv_iload_n hx hb dX12_goThrough_124 rfl (lv_at hl 1 rfl) ?_
                    refine lv_iconst (v := (-1)) hx hb dX12_goThrough_125 (by decide) ?_
                    refine sM_80 hx hb hK hP hS hd (iv_in i_58 (by decide) (by decide)) dX12_goThrough_126 (fun H locs ar_60 ear_60 hP hS => ?_)
                    have hA_ar_60 : rA ar_60 := rA_put hA_ar_48 ear_60 (iv_any _)
                    obtain ⟨v_61, ev_61⟩ : ∃ z : Int32, z = x_47 + 1 := ⟨_, rfl⟩
                    refine lv_iinc (v := v_61) (lv' := [(2, .int v_61), (0, .ref h)]) hx hb dX12_goThrough_127 hl (k := 1) rfl (by rw [ev_61]; rfl) (by decide) rfl (fun ls hl => ?_)
                    have t_62 : v_61.toInt = x_47.toInt + 1 ∧ 1 ≤ v_61.toInt ∧ v_61.toInt ≤ 80 := iv_addc ev_61 i_58 (by decide) (by decide) (by decide)
                    refine lv_goto (tgt := 112) hx hb dX12_goThrough_130 (by decide) ?_
                    exact ih_53 v_61 ar_60 _ _ ls (by omega) (iv_w t_62.2 (by decide) (by decide)) hA_ar_60 (fA_put (fA_call (fA_rf [80] _) fa_49 (by decide)) ear_60 (by decide)) (mF_fr hp_50 (fM_rf [] _) (fA_put (fA_rf [80] _) ear_60 (by decide)) rfl rfl) (sW_fr hp_51 (fA_put (fA_rf [80] _) ear_60 (by decide)) rfl rfl) (vM_fr hp_52 (fM_rf [] _) (fA_put (fA_rf [80] _) ear_60 (by decide)) rfl rfl rfl rfl rfl) hP hS (lv_sub hl [1, 0] rfl)
              · skip
                have z_177 : (0 : Int32).toInt = 0 := by decide
                exact hj_55 81 0 ar_24 _ _ ls (by first | decide | omega) (iv_w (⟨by decide, by decide⟩ : (0 : Int) ≤ (0 : Int32).toInt ∧ (0 : Int32).toInt ≤ 0) (by decide) (by decide)) hA_ar_24 (fA_rf [80] _) hp_26 hp_27 hp_28 hP hS (lv_sub hl [1, 0] rfl)
            · skip
              have i_34 : 0 ≤ x_23.toInt ∧ x_23.toInt ≤ 39 := iv_lt1 i_x_23 i_32 (Int32.not_le.mp c_33)
              have i_35 : 1 ≤ (fv 32).toInt ∧ (fv 32).toInt ≤ 40 := iv_lt2 i_x_23 i_32 (Int32.not_le.mp c_33)
              refine lv_aload_n hx hb dX12_goThrough_64 rfl (lv_at hl 0 rfl) ?_
              refine gM_68 hx hb htg hown hK hP dX12_goThrough_65 ?_
              refine lv_iload_n hx hb dX12_goThrough_68 rfl (lv_at hl 1 rfl) ?_
              refine lv_iconst (v := 0) hx hb dX12_goThrough_69 (by decide) ?_
              refine sM_68 hx hb hK hP hS hd (iv_in i_34 (by decide) (by decide)) dX12_goThrough_70 (fun H locs ar_36 ear_36 hP hS => ?_)
              have hA_ar_36 : rA ar_36 := rA_put hA_ar_24 ear_36 (iv_any _)
              have hp_37 : sW ar_36 := sW_68 hp_27 ear_36 (Or.inl (Int.lt_of_le_of_lt ((⟨by decide, by decide⟩ : (0 : Int) ≤ (0 : Int32).toInt ∧ (0 : Int32).toInt ≤ 0)).2 (by decide)))
              refine lv_aload_n hx hb dX12_goThrough_71 rfl (lv_at hl 0 rfl) ?_
              refine gM_69 hx hb htg hown hK hP dX12_goThrough_72 ?_
              refine lv_iload_n hx hb dX12_goThrough_75 rfl (lv_at hl 1 rfl) ?_
              refine lv_aload_n hx hb dX12_goThrough_76 rfl (lv_at hl 0 rfl) ?_
              refine gM_9 hx hb htg hown hK hP dX12_goThrough_77 ?_
              refine lv_iload_n hx hb dX12_goThrough_80 rfl (lv_at hl 1 rfl) ?_
              refine lM_9 hx hb hK hP (iv_in i_34 (by decide) (by decide)) dX12_goThrough_81 (fun v_38 ev_38 => ?_)
              have i_39 : 0 ≤ v_38.toInt ∧ v_38.toInt ≤ 11 := ev_38 ▸ hA_ar_36 9 _
              refine sM_69 hx hb hK hP hS hd (iv_in i_34 (by decide) (by decide)) dX12_goThrough_82 (fun H locs ar_40 ear_40 hP hS => ?_)
              have hA_ar_40 : rA ar_40 := rA_put hA_ar_36 ear_40 i_39
              refine lv_aload_n hx hb dX12_goThrough_83 rfl (lv_at hl 0 rfl) ?_
              refine gM_72 hx hb htg hown hK hP dX12_goThrough_84 ?_
              refine lv_iload_n hx hb dX12_goThrough_87 rfl (lv_at hl 1 rfl) ?_
              refine lv_iconst (v := (-1)) hx hb dX12_goThrough_88 (by decide) ?_
              refine sM_72 hx hb hK hP hS hd (iv_in i_34 (by decide) (by decide)) dX12_goThrough_89 (fun H locs ar_41 ear_41 hP hS => ?_)
              have hA_ar_41 : rA ar_41 := rA_put hA_ar_40 ear_41 (iv_any _)
              refine lv_aload_n hx hb dX12_goThrough_90 rfl (lv_at hl 0 rfl) ?_
              refine gM_74 hx hb htg hown hK hP dX12_goThrough_91 ?_
              refine lv_iload_n hx hb dX12_goThrough_94 rfl (lv_at hl 1 rfl) ?_
              refine lv_iconst (v := 0) hx hb dX12_goThrough_95 (by decide) ?_
              refine sM_74 hx hb hK hP hS hd (iv_in i_34 (by decide) (by decide)) dX12_goThrough_96 (fun H locs ar_42 ear_42 hP hS => ?_)
              have hA_ar_42 : rA ar_42 := rA_put hA_ar_41 ear_42 (iv_any _)
              refine lv_aload_n hx hb dX12_goThrough_97 rfl (lv_at hl 0 rfl) ?_
              refine gM_75 hx hb htg hown hK hP dX12_goThrough_98 ?_
              refine lv_iload_n hx hb dX12_goThrough_101 rfl (lv_at hl 1 rfl) ?_
              refine lv_iconst (v := 0) hx hb dX12_goThrough_102 (by decide) ?_
              refine sM_75 hx hb hK hP hS hd (iv_in i_34 (by decide) (by decide)) dX12_goThrough_103 (fun H locs ar_43 ear_43 hP hS => ?_)
              have hA_ar_43 : rA ar_43 := rA_put hA_ar_42 ear_43 (iv_any _)
              obtain ⟨v_44, ev_44⟩ : ∃ z : Int32, z = x_23 + 1 := ⟨_, rfl⟩
              refine lv_iinc (v := v_44) (lv' := [(2, .int v_44), (0, .ref h)]) hx hb dX12_goThrough_104 hl (k := 1) rfl (by rw [ev_44]; rfl) (by decide) rfl (fun ls hl => ?_)
              have t_45 : v_44.toInt = x_23.toInt + 1 ∧ 1 ≤ v_44.toInt ∧ v_44.toInt ≤ 40 := iv_addc ev_44 i_34 (by decide) (by decide) (by decide)
              refine lv_goto (tgt := 56) hx hb dX12_goThrough_107 (by decide) ?_
              exact ih_29 v_44 ar_43 _ _ ls (by omega) (iv_w t_45.2 (by decide) (by decide)) hA_ar_43 (fA_put (fA_put (fA_put (fA_put (fA_put (fA_call (fA_rf [68, 69, 72, 74, 75] _) fa_25 (by decide)) ear_36 (by decide)) ear_40 (by decide)) ear_41 (by decide)) ear_42 (by decide)) ear_43 (by decide)) (mF_fr hp_26 (fM_rf [] _) (fA_put (fA_put (fA_put (fA_put (fA_put (fA_rf [68, 69, 72, 74, 75] _) ear_36 (by decide)) ear_40 (by decide)) ear_41 (by decide)) ear_42 (by decide)) ear_43 (by decide)) rfl rfl) (sW_fr hp_37 (fA_put (fA_put (fA_put (fA_put (fA_rf [69, 72, 74, 75] _) ear_40 (by decide)) ear_41 (by decide)) ear_42 (by decide)) ear_43 (by decide)) rfl rfl) (vM_fr hp_28 (fM_rf [] _) (fA_put (fA_put (fA_put (fA_put (fA_put (fA_rf [68, 69, 72, 74, 75] _) ear_36 (by decide)) ear_40 (by decide)) ear_41 (by decide)) ear_42 (by decide)) ear_43 (by decide)) rfl rfl rfl rfl rfl) hP hS (lv_sub hl [1, 0] rfl)
        · skip
          have z_178 : (0 : Int32).toInt = 0 := by decide
          exact hj_31 41 0 ar_3 _ _ ls (by first | decide | omega) (iv_w (⟨by decide, by decide⟩ : (0 : Int) ≤ (0 : Int32).toInt ∧ (0 : Int32).toInt ≤ 0) (by decide) (by decide)) hA_ar_3 (fA_rf [68, 69, 72, 74, 75] _) hp_5 hp_6 hp_7 hP hS (lv_sub hl [1, 0] rfl)
      · skip
        have i_13 : 0 ≤ x_2.toInt ∧ x_2.toInt ≤ 19 := iv_lt1 i_x_2 i_11 (Int32.not_le.mp c_12)
        have i_14 : 1 ≤ (fv 34).toInt ∧ (fv 34).toInt ≤ 20 := iv_lt2 i_x_2 i_11 (Int32.not_le.mp c_12)
        refine lv_aload_n hx hb dX12_goThrough_15 rfl (lv_at hl 0 rfl) ?_
        refine gM_76 hx hb htg hown hK hP dX12_goThrough_16 ?_
        refine lv_iload_n hx hb dX12_goThrough_19 rfl (lv_at hl 1 rfl) ?_
        refine lv_aload_n hx hb dX12_goThrough_20 rfl (lv_at hl 0 rfl) ?_
        refine gM_21 hx hb htg hown hK hP dX12_goThrough_21 ?_
        refine lv_iload_n hx hb dX12_goThrough_24 rfl (lv_at hl 1 rfl) ?_
        refine lM_21 hx hb hK hP (iv_in i_13 (by decide) (by decide)) dX12_goThrough_25 (fun v_15 ev_15 => ?_)
        refine sM_76 hx hb hK hP hS hd (iv_in i_13 (by decide) (by decide)) dX12_goThrough_26 (fun H locs ar_16 ear_16 hP hS => ?_)
        have hA_ar_16 : rA ar_16 := rA_put hA_ar_3 ear_16 (iv_any _)
        refine lv_aload_n hx hb dX12_goThrough_27 rfl (lv_at hl 0 rfl) ?_
        refine gM_77 hx hb htg hown hK hP dX12_goThrough_28 ?_
        refine lv_iload_n hx hb dX12_goThrough_31 rfl (lv_at hl 1 rfl) ?_
        refine lv_iconst (v := (-1)) hx hb dX12_goThrough_32 (by decide) ?_
        refine sM_77 hx hb hK hP hS hd (iv_in i_13 (by decide) (by decide)) dX12_goThrough_33 (fun H locs ar_17 ear_17 hP hS => ?_)
        have hA_ar_17 : rA ar_17 := rA_put hA_ar_16 ear_17 (iv_any _)
        refine lv_aload_n hx hb dX12_goThrough_34 rfl (lv_at hl 0 rfl) ?_
        refine gM_78 hx hb htg hown hK hP dX12_goThrough_35 ?_
        refine lv_iload_n hx hb dX12_goThrough_38 rfl (lv_at hl 1 rfl) ?_
        refine lv_iconst (v := 0) hx hb dX12_goThrough_39 (by decide) ?_
        refine sM_78 hx hb hK hP hS hd (iv_in i_13 (by decide) (by decide)) dX12_goThrough_40 (fun H locs ar_18 ear_18 hP hS => ?_)
        have hA_ar_18 : rA ar_18 := rA_put hA_ar_17 ear_18 (iv_any _)
        refine lv_aload_n hx hb dX12_goThrough_41 rfl (lv_at hl 0 rfl) ?_
        refine gM_79 hx hb htg hown hK hP dX12_goThrough_42 ?_
        refine lv_iload_n hx hb dX12_goThrough_45 rfl (lv_at hl 1 rfl) ?_
        refine lv_iconst (v := 0) hx hb dX12_goThrough_46 (by decide) ?_
        refine sM_79 hx hb hK hP hS hd (iv_in i_13 (by decide) (by decide)) dX12_goThrough_47 (fun H locs ar_19 ear_19 hP hS => ?_)
        have hA_ar_19 : rA ar_19 := rA_put hA_ar_18 ear_19 (iv_any _)
        obtain ⟨v_20, ev_20⟩ : ∃ z : Int32, z = x_2 + 1 := ⟨_, rfl⟩
        refine lv_iinc (v := v_20) (lv' := [(2, .int v_20), (0, .ref h)]) hx hb dX12_goThrough_48 hl (k := 1) rfl (by rw [ev_20]; rfl) (by decide) rfl (fun ls hl => ?_)
        have t_21 : v_20.toInt = x_2.toInt + 1 ∧ 1 ≤ v_20.toInt ∧ v_20.toInt ≤ 20 := iv_addc ev_20 i_13 (by decide) (by decide) (by decide)
        refine lv_goto (tgt := 7) hx hb dX12_goThrough_51 (by decide) ?_
        exact ih_8 v_20 ar_19 _ _ ls (by omega) (iv_w t_21.2 (by decide) (by decide)) hA_ar_19 (fA_put (fA_put (fA_put (fA_put (fA_call (fA_rf [76, 77, 78, 79] _) fa_4 (by decide)) ear_16 (by decide)) ear_17 (by decide)) ear_18 (by decide)) ear_19 (by decide)) (mF_fr hp_5 (fM_rf [] _) (fA_put (fA_put (fA_put (fA_put (fA_rf [76, 77, 78, 79] _) ear_16 (by decide)) ear_17 (by decide)) ear_18 (by decide)) ear_19 (by decide)) rfl rfl) (sW_fr hp_6 (fA_put (fA_put (fA_put (fA_put (fA_rf [76, 77, 78, 79] _) ear_16 (by decide)) ear_17 (by decide)) ear_18 (by decide)) ear_19 (by decide)) rfl rfl) (vM_fr hp_7 (fM_rf [] _) (fA_put (fA_put (fA_put (fA_put (fA_rf [76, 77, 78, 79] _) ear_16 (by decide)) ear_17 (by decide)) ear_18 (by decide)) ear_19 (by decide)) rfl rfl rfl rfl rfl) hP hS (lv_sub hl [1, 0] rfl)
  · skip
    have z_179 : (0 : Int32).toInt = 0 := by decide
    exact hj_10 21 0 ar _ _ ls (by first | decide | omega) (iv_w (⟨by decide, by decide⟩ : (0 : Int) ≤ (0 : Int32).toInt ∧ (0 : Int32).toInt ≤ 0) (by decide) (by decide)) hA_ar (fA_rf [76, 77, 78, 79] _) (mF_fr hp_mF (fM_put (fM_rf [84] _) efv_1 (by decide)) (fA_rf [] _) rfl rfl) hp_sW (vM_fr hp_vM (fM_put (fM_rf [84] _) efv_1 (by decide)) (fA_rf [] _) rfl rfl rfl rfl rfl) hP hS (lv_sub hl [1, 0] rfl)
set_option maxHeartbeats 4000000 in
set_option maxRecDepth 100000 in
theorem m_morning (l : Launch) (dC : Nat → ClassId) (dI : Nat → Nat → Nat) (sz h : Nat) (ad : Nat → Nat) (cA : Nat → ClassId) (hd : dM h ad) (fv : Nat → Int32) (wd : Int64) (ar : Nat → Nat → Int32) (hF_fv : rF fv) (hA_ar : rA ar) (G9 : Nat → Int) (hp_sW : sW ar) (hp_vM : vM fv ar) (hp_mF : wt_fm G9 (fv 8) (ar 4)) : Met l yX12_morning (.code yX12_morning cX12_morning 2 (some .int) :: lw_good) ({ frames := 10, cells := 0, slots := 0, locals := 225 }) (va_Pc [.ref h] (prM dC dI h ad cA fv wd ar sz)) (va_Qi (fun (r : Int32) (u : mS) => rF u.1 ∧ rA u.2.2 ∧ fM [0, 8, 36, 66, 84, 85, 86, 87] fv u.1 ∧ fA [4, 15, 16, 18, 24, 64, 65, 68, 69, 70, 71, 72, 73, 74, 75, 76, 77, 78, 79, 80, 81, 82, 83] ar u.2.2 ∧ (sW u.2.2) ∧ (wt_fm G9 (u.1 8) (u.2.2 4)) ∧ True) (enM dC dI h ad cA) (aM h ad sz)) 0 0 (aM h ad sz) := by
  refine Met.ofW (cc := cX12_morning) (maxL := 2) (ret := (some .int)) (by decide) rfl ?_
  intro p e s m args below meth c s₁ B hml hv
  obtain ⟨rfl, hsz, hP, hK⟩ := hv
  have hx := B.exec
  have hb := B.bytes
  have hr := B.returns
  have hts := atoms_spec (ws := (.code yX12_morning cX12_morning 2 (some .int) :: lw_good)) B.pre
  have htg : ∀ w ∈ lw_good, w.before _ s = true := fun w hw => hts w (List.mem_cons_of_mem _ hw)
  have hown : s.vm.findClass RX12 = some m.cls := findClass_of_methodNamed B.named
  have hlocks := B.notSynchronized
  subst hsz
  have hS : va_S (aM h ad s.heap.size) s.heap s.heap [] := va_S.rf
  have hl := lv_entry ([.ref h]) (n := 2) (Nat.le_of_ble_eq_true rfl)
  rw [lg_entry_eq]
  generalize (lg_sl ([.ref h]) ++ List.replicate (2 - (lg_sl ([.ref h])).length) Slot.unset).toArray = ls at hl ⊢
  have hl : lv_has ls 2 [(0, .ref h)] := hl
  refine lv_aload_n hx hb dX12_morning_0 rfl (lv_at hl 0 rfl) ?_
  refine lv_iconst (v := 0) hx hb dX12_morning_1 (by decide) ?_
  refine pM_0 hx hb htg hown hK hP hS hd dX12_morning_2 (fun H locs fv_1 efv_1 hP hS => ?_)
  have hF_fv_1 : rF fv_1 := rF_put hF_fv efv_1 (iv_any _)
  refine lv_aload_n hx hb dX12_morning_5 rfl (lv_at hl 0 rfl) ?_
  refine gM_86 hx hb htg hown hK hP dX12_morning_6 ?_
  refine my_ti (y := fv 86) ((congrFun efv_1 86)) ?_
  refine lv_aload_n hx hb dX12_morning_9 rfl (lv_at hl 0 rfl) ?_
  refine gM_3 hx hb htg hown hK hP dX12_morning_10 ?_
  refine my_ti (y := fv 3) ((congrFun efv_1 3)) ?_
  have i_2 : 0 ≤ (fv 3).toInt ∧ (fv 3).toInt ≤ 199 := hF_fv 3
  refine lv_icmp_ne (tgt := 18) hx hb dX12_morning_13 (by decide) (fun c_3 => ?_) (fun c_3 => ?_)
  · skip
    refine lv_aload_n hx hb dX12_morning_18 rfl (lv_at hl 0 rfl) ?_
    refine lv_aload_n hx hb dX12_morning_19 rfl (lv_at hl 0 rfl) ?_
    refine gM_3 hx hb htg hown hK hP dX12_morning_20 ?_
    refine my_ti (y := fv 3) ((congrFun efv_1 3)) ?_
    refine pM_86 hx hb htg hown hK hP hS hd dX12_morning_23 (fun H locs fv_4 efv_4 hP hS => ?_)
    have hF_fv_4 : rF fv_4 := rF_put hF_fv_1 efv_4 (iv_any _)
    refine lv_aload_n hx hb dX12_morning_26 rfl (lv_at hl 0 rfl) ?_
    refine lv_iconst (v := (-1)) hx hb dX12_morning_27 (by decide) ?_
    refine va_callv (va_runV (As := [.int (-1)]) (rest := []) ⟨hx, hb, hml, hown, hts⟩ (m_goThrough l dC dI H.size h ad cA hd fv_4 wd ar hF_fv_4 hA_ar G9 (-1) hp_sW (vM_fr hp_vM (fM_put (fM_put (fM_rf [0, 86] _) efv_1 (by decide)) efv_4 (by decide)) (fA_rf [] _) rfl rfl rfl rfl rfl) (mF_fr hp_mF (fM_put (fM_put (fM_rf [0, 86] _) efv_1 (by decide)) efv_4 (by decide)) (fA_rf [] _) rfl rfl)) (cwV 1 hts (gV kw_8_172 kw_8_174 kw_p_83 kw_1_15 kw_8_175) rfl rfl rfl (by decide +kernel) ⟨Nat.le_of_ble_eq_true rfl, Nat.le_of_ble_eq_true rfl⟩) ⟨fun a U g mk q => ⟨q.1, q.2.1, q.2.2.1, va_K.moved (u := U) (U := U.calling g mk a) (Vm.Alike.refl U.vm) q.2.2.2⟩, va_recv hK hP (ci := 12) (q0 := 0) rfl rfl, fun U hU hW => ⟨rfl, by rw [hU], by rw [hU]; exact hP, va_K.moved hW.alike hK⟩⟩ rfl rfl hl.1 rfl (lv_room (Nat.le_of_ble_eq_true rfl)) dX12_morning_28 ⟨Nat.le_of_ble_eq_true rfl, Nat.le_of_ble_eq_true rfl⟩) hS (fun q _ h9 => aM_up hS q h9) (aM_up hS) (fun u t H1 locs ht _ hw hB _ hk1 hS => ?_)
    obtain ⟨fv_8, wd_9, ar_10⟩ := u
    obtain ⟨hF_fv_8, hA_ar_10, fr_11, fa_12, p_6, p_7, -⟩ := hw
    have hP : va_P (dC, dI) vwCl (wsM h ad cA fv_8 wd_9 ar_10) H1 := by have h9 := hB.1; rw [ht] at h9; exact h9
    have fr_11 : fM [8, 36, 66, 84, 85, 87] fv_4 fv_8 := fr_11
    have fa_12 : fA [4, 15, 16, 18, 24, 64, 65, 68, 69, 70, 71, 72, 73, 74, 75, 76, 77, 78, 79, 80, 82, 83] ar ar_10 := fa_12
    have p_6 : sW ar_10 := p_6
    have p_7 : wt_fm G9 (fv_8 8) (ar_10 4) := p_7
    generalize H1 = H at hP hS ⊢
    refine lv_iconst (v := 0) hx hb dX12_morning_31 (by decide) ?_
    refine lv_istore_n (lv' := [(1, .int 0), (0, .ref h)]) hx hb dX12_morning_32 rfl hl (by decide) rfl (fun ls hl => ?_)
    refine my_cut (P := fun R9 a9 Q9 => ∀ (n_19 : Nat) (x_13 : Int32) (ar_14 : Nat → Nat → Int32) (H : Heap) (locs : List Loc) (ls : Array Slot), 80 - x_13.toInt < (n_19 : Int) → (0 ≤ x_13.toInt ∧ x_13.toInt ≤ 80) → rA ar_14 → fA [81] ar_10 ar_14 → wt_fm G9 (fv_8 8) (ar_14 4) → sW ar_14 → vM fv_8 ar_14 → va_P (dC, dI) vwCl (wsM h ad cA fv_8 wd_9 ar_14) H → va_S (aM h ad s.heap.size) s.heap H locs → lv_has ls 2 [(0, .ref h), (1, .int x_13)] → W p l e R9 s m a9 below meth c H locs 0 0 Q9 (F0 m 33 ls [])) ?_ (fun hj_21 => ?_)
    · intro n_19
      induction n_19 with
      | zero => intro x_13 ar_14 H locs ls fu_20 i_x_13 hA_ar_14 fa_15 hp_16 hp_17 hp_18; exfalso; omega
      | succ n_19 ih_19 =>
        intro x_13 ar_14 H locs ls fu_20 i_x_13 hA_ar_14 fa_15 hp_16 hp_17 hp_18 hP hS hl
        refine lv_iload_n hx hb dX12_morning_33 rfl (lv_at hl 1 rfl) ?_
        refine lv_aload_n hx hb dX12_morning_34 rfl (lv_at hl 0 rfl) ?_
        refine gM_35 hx hb htg hown hK hP dX12_morning_35 ?_
        refine my_ti (y := fv 35) ((fr_11 35 rfl).trans ((congrFun efv_4 35).trans ((congrFun efv_1 35)))) ?_
        have i_22 : 0 ≤ (fv 35).toInt ∧ (fv 35).toInt ≤ 80 := hF_fv 35
        refine lv_icmp_ge (tgt := 59) hx hb dX12_morning_38 (by decide) (fun c_23 => ?_) (fun c_23 => ?_)
        · skip
          refine lv_aload_n hx hb dX12_morning_59 rfl (lv_at hl 0 rfl) ?_
          refine va_calli (va_runV (As := []) (rest := []) ⟨hx, hb, hml, hown, hts⟩ (m_inTime l dC dI H.size h ad cA hd fv_8 wd_9 ar_14 hF_fv_8 hA_ar_14) (cwV 0 hts (gV kw_8_228 kw_8_230 kw_p_97 kw_1_15 kw_8_231) rfl rfl rfl (by decide +kernel) ⟨Nat.le_of_ble_eq_true rfl, Nat.le_of_ble_eq_true rfl⟩) ⟨fun a U g mk q => ⟨q.1, q.2.1, q.2.2.1, va_K.moved (u := U) (U := U.calling g mk a) (Vm.Alike.refl U.vm) q.2.2.2⟩, va_recv hK hP (ci := 12) (q0 := 0) rfl rfl, fun U hU hW => ⟨rfl, by rw [hU], by rw [hU]; exact hP, va_K.moved hW.alike hK⟩⟩ rfl rfl hl.1 rfl (lv_room (Nat.le_of_ble_eq_true rfl)) dX12_morning_60 ⟨Nat.le_of_ble_eq_true rfl, Nat.le_of_ble_eq_true rfl⟩) hS (fun q _ h9 => aM_up hS q h9) (aM_up hS) (fun r_31 u t H1 locs ht _ hw hB _ hk1 hS => ?_)
          obtain ⟨fv_32, wd_33, ar_34⟩ := u
          obtain ⟨hF_fv_32, hA_ar_34, fr_35, fa_36, -⟩ := hw
          have hP : va_P (dC, dI) vwCl (wsM h ad cA fv_32 wd_33 ar_34) H1 := by have h9 := hB.1; rw [ht] at h9; exact h9
          have fr_35 : fM [] fv_8 fv_32 := fr_35
          have fa_36 : fA [] ar_14 ar_34 := fa_36
          generalize H1 = H at hP hS ⊢
          exact W.iret (v := r_31) hx hb hr (fun t ht hW => ⟨⟨r_31, (fv_32, wd_33, ar_34), rfl, ⟨hF_fv_32, hA_ar_34, (fM_call (fM_call (fM_put (fM_put (fM_rf [0, 8, 36, 66, 84, 85, 86, 87] _) efv_1 (by decide)) efv_4 (by decide)) fr_11 (by decide)) fr_35 (by decide)), (fA_call (fA_call (fA_call (fA_rf [4, 15, 16, 18, 24, 64, 65, 68, 69, 70, 71, 72, 73, 74, 75, 76, 77, 78, 79, 80, 81, 82, 83] _) fa_12 (by decide)) fa_15 (by decide)) fa_36 (by decide)), (sW_fr hp_17 (fA_call (fA_rf [] _) fa_36 (by decide)) rfl rfl), (mF_fr hp_16 (fM_call (fM_rf [] _) fr_35 (by decide)) (fA_call (fA_rf [] _) fa_36 (by decide)) rfl rfl), trivial⟩, ⟨by rw [ht]; exact hP, va_K.moved hW.alike hK⟩⟩, hS.F ht⟩) hS.2.2 dX12_morning_63
        · skip
          have i_24 : 0 ≤ x_13.toInt ∧ x_13.toInt ≤ 79 := iv_lt1 i_x_13 i_22 (Int32.not_le.mp c_23)
          have i_25 : 1 ≤ (fv 35).toInt ∧ (fv 35).toInt ≤ 80 := iv_lt2 i_x_13 i_22 (Int32.not_le.mp c_23)
          refine lv_aload_n hx hb dX12_morning_41 rfl (lv_at hl 0 rfl) ?_
          refine gM_81 hx hb htg hown hK hP dX12_morning_42 ?_
          refine lv_iload_n hx hb dX12_morning_45 rfl (lv_at hl 1 rfl) ?_
          refine lv_aload_n hx hb dX12_morning_46 rfl (lv_at hl 0 rfl) ?_
          refine gM_80 hx hb htg hown hK hP dX12_morning_47 ?_
          refine lv_iload_n hx hb dX12_morning_50 rfl (lv_at hl 1 rfl) ?_
          refine lM_80 hx hb hK hP (iv_in i_24 (by decide) (by decide)) dX12_morning_51 (fun v_26 ev_26 => ?_)
          refine sM_81 hx hb hK hP hS hd (iv_in i_24 (by decide) (by decide)) dX12_morning_52 (fun H locs ar_27 ear_27 hP hS => ?_)
          have hA_ar_27 : rA ar_27 := rA_put hA_ar_14 ear_27 (iv_any _)
          obtain ⟨v_28, ev_28⟩ : ∃ z : Int32, z = x_13 + 1 := ⟨_, rfl⟩
          refine lv_iinc (v := v_28) (lv' := [(1, .int v_28), (0, .ref h)]) hx hb dX12_morning_53 hl (k := 1) rfl (by rw [ev_28]; rfl) (by decide) rfl (fun ls hl => ?_)
          have t_29 : v_28.toInt = x_13.toInt + 1 ∧ 1 ≤ v_28.toInt ∧ v_28.toInt ≤ 80 := iv_addc ev_28 i_24 (by decide) (by decide) (by decide)
          refine lv_goto (tgt := 33) hx hb dX12_morning_56 (by decide) ?_
          exact ih_19 v_28 ar_27 _ _ ls (by omega) (iv_w t_29.2 (by decide) (by decide)) hA_ar_27 (fA_put (fA_call (fA_rf [81] _) fa_15 (by decide)) ear_27 (by decide)) (mF_fr hp_16 (fM_rf [] _) (fA_put (fA_rf [81] _) ear_27 (by decide)) rfl rfl) (sW_fr hp_17 (fA_put (fA_rf [81] _) ear_27 (by decide)) rfl rfl) (vM_fr hp_18 (fM_rf [] _) (fA_put (fA_rf [81] _) ear_27 (by decide)) rfl rfl rfl rfl rfl) hP hS (lv_sub hl [1, 0] rfl)
    · skip
      have z_37 : (0 : Int32).toInt = 0 := by decide
      exact hj_21 81 0 ar_10 _ _ ls (by first | decide | omega) (iv_w (⟨by decide, by decide⟩ : (0 : Int) ≤ (0 : Int32).toInt ∧ (0 : Int32).toInt ≤ 0) (by decide) (by decide)) hA_ar_10 (fA_rf [81] _) p_7 p_6 (vM_fr hp_vM (fM_call (fM_put (fM_put (fM_rf [0, 8, 36, 66, 84, 85, 86, 87] _) efv_1 (by decide)) efv_4 (by decide)) fr_11 (by decide)) (fA_call (fA_rf [4, 15, 16, 18, 24, 64, 65, 68, 69, 70, 71, 72, 73, 74, 75, 76, 77, 78, 79, 80, 82, 83] _) fa_12 (by decide)) rfl rfl rfl rfl rfl) hP hS (lv_sub hl [1, 0] rfl)
  · skip
    have i_38 : 0 ≤ (fv 86).toInt ∧ (fv 86).toInt ≤ 199 := iv_eq1 i_2 c_3
    refine lv_iconst (v := (-1)) hx hb dX12_morning_16 (by decide) ?_
    exact W.iret (v := (-1)) hx hb hr (fun t ht hW => ⟨⟨(-1), (fv_1, wd, ar), rfl, ⟨hF_fv_1, hA_ar, (fM_put (fM_rf [0, 8, 36, 66, 84, 85, 86, 87] _) efv_1 (by decide)), (fA_rf [4, 15, 16, 18, 24, 64, 65, 68, 69, 70, 71, 72, 73, 74, 75, 76, 77, 78, 79, 80, 81, 82, 83] _), hp_sW, (mF_fr hp_mF (fM_put (fM_rf [0] _) efv_1 (by decide)) (fA_rf [] _) rfl rfl), trivial⟩, ⟨by rw [ht]; exact hP, va_K.moved hW.alike hK⟩⟩, hS.F ht⟩) hS.2.2 dX12_morning_17
set_option maxHeartbeats 4000000 in
set_option maxRecDepth 100000 in
theorem m_keep_15 (l : Launch) (dC : Nat → ClassId) (dI : Nat → Nat → Nat) (sz h : Nat) (ad : Nat → Nat) (cA : Nat → ClassId) (hd : dM h ad) (fv : Nat → Int32) (wd : Int64) (ar : Nat → Nat → Int32) (hF_fv : rF fv) (hA_ar : rA ar) (nn : Int32) (h_nn : 0 ≤ nn.toInt ∧ nn.toInt ≤ 40) (hk : (fv 89).toInt + nn.toInt ≤ 441) : Met l yX12_keep (.code yX12_keep cX12_keep 4 none :: lw_good) ({ frames := 2, cells := 0, slots := 0, locals := 40 }) (va_Pc [.ref h, .ref (ad 15), .int nn] (prM dC dI h ad cA fv wd ar sz)) (va_Qv (fun (u : mS) => rF u.1 ∧ rA u.2.2 ∧ fM [89] fv u.1 ∧ fA [88] ar u.2.2 ∧ ((u.1 89).toInt = (fv 89).toInt + nn.toInt) ∧ True) (enM dC dI h ad cA) (aM h ad sz)) 0 0 (aM h ad sz) := by
  refine Met.ofW (cc := cX12_keep) (maxL := 4) (ret := none) (by decide) rfl ?_
  intro p e s m args below meth c s₁ B hml hv
  obtain ⟨rfl, hsz, hP, hK⟩ := hv
  have hx := B.exec
  have hb := B.bytes
  have hr := B.returns
  have hts := atoms_spec (ws := (.code yX12_keep cX12_keep 4 none :: lw_good)) B.pre
  have htg : ∀ w ∈ lw_good, w.before _ s = true := fun w hw => hts w (List.mem_cons_of_mem _ hw)
  have hown : s.vm.findClass RX12 = some m.cls := findClass_of_methodNamed B.named
  have hlocks := B.notSynchronized
  subst hsz
  have hS : va_S (aM h ad s.heap.size) s.heap s.heap [] := va_S.rf
  have hl := lv_entry ([.ref h, .ref (ad 15), .int nn]) (n := 4) (Nat.le_of_ble_eq_true rfl)
  rw [lg_entry_eq]
  generalize (lg_sl ([.ref h, .ref (ad 15), .int nn]) ++ List.replicate (4 - (lg_sl ([.ref h, .ref (ad 15), .int nn])).length) Slot.unset).toArray = ls at hl ⊢
  have hl : lv_has ls 4 [(0, .ref h), (1, .ref (ad 15)), (2, .int nn)] := hl
  refine lv_iconst (v := 0) hx hb dX12_keep_0 (by decide) ?_
  refine lv_istore_n (lv' := [(3, .int 0), (0, .ref h), (1, .ref (ad 15)), (2, .int nn)]) hx hb dX12_keep_1 rfl hl (by decide) rfl (fun ls hl => ?_)
  refine my_cut (P := fun R9 a9 Q9 => ∀ (n_8 : Nat) (x_1 : Int32) (fv_2 : Nat → Int32) (ar_4 : Nat → Nat → Int32) (H : Heap) (locs : List Loc) (ls : Array Slot), 40 - x_1.toInt < (n_8 : Int) → (0 ≤ x_1.toInt ∧ x_1.toInt ≤ 40) → rF fv_2 → fM [89] fv fv_2 → rA ar_4 → fA [88] ar ar_4 → ((fv_2 89).toInt = (fv 89).toInt + x_1.toInt) → (x_1.toInt ≤ nn.toInt) → va_P (dC, dI) vwCl (wsM h ad cA fv_2 wd ar_4) H → va_S (aM h ad s.heap.size) s.heap H locs → lv_has ls 4 [(0, .ref h), (1, .ref (ad 15)), (2, .int nn), (3, .int x_1)] → W p l e R9 s m a9 below meth c H locs 0 0 Q9 (F0 m 2 ls [])) ?_ (fun hj_10 => ?_)
  · intro n_8
    induction n_8 with
    | zero => intro x_1 fv_2 ar_4 H locs ls fu_9 i_x_1 hF_fv_2 fr_3 hA_ar_4 fa_5 q_6 q_7; exfalso; omega
    | succ n_8 ih_8 =>
      intro x_1 fv_2 ar_4 H locs ls fu_9 i_x_1 hF_fv_2 fr_3 hA_ar_4 fa_5 q_6 q_7 hP hS hl
      refine lv_iload_n hx hb dX12_keep_2 rfl (lv_at hl 3 rfl) ?_
      refine lv_iload_n hx hb dX12_keep_3 rfl (lv_at hl 2 rfl) ?_
      refine lv_icmp_ge (tgt := 35) hx hb dX12_keep_4 (by decide) (fun c_11 => ?_) (fun c_11 => ?_)
      · skip
        have k_12 := Int32.le_iff_toInt_le.mp c_11
        have z_13 : 0 ≤ (fv_2 89).toInt ∧ (fv_2 89).toInt ≤ 441 := hF_fv_2 89
        exact W.vret hx hb hr (fun t ht hW => ⟨⟨(fv_2, wd, ar_4), rfl, ⟨hF_fv_2, hA_ar_4, (fM_call (fM_rf [89] _) fr_3 (by decide)), (fA_call (fA_rf [88] _) fa_5 (by decide)), (show (fv_2 89).toInt = (fv 89).toInt + nn.toInt from by omega), trivial⟩, ⟨by rw [ht]; exact hP, va_K.moved hW.alike hK⟩⟩, hS.F ht⟩) hS.2.2 dX12_keep_35
      · skip
        have i_14 : 0 ≤ x_1.toInt ∧ x_1.toInt ≤ 39 := iv_lt1 i_x_1 h_nn (Int32.not_le.mp c_11)
        have i_15 : 1 ≤ nn.toInt ∧ nn.toInt ≤ 40 := iv_lt2 i_x_1 h_nn (Int32.not_le.mp c_11)
        have k_16 := Int32.lt_iff_toInt_lt.mp (Int32.not_le.mp c_11)
        refine lv_aload_n hx hb dX12_keep_7 rfl (lv_at hl 0 rfl) ?_
        refine gM_88 hx hb htg hown hK hP dX12_keep_8 ?_
        refine lv_aload_n hx hb dX12_keep_11 rfl (lv_at hl 0 rfl) ?_
        refine gM_89 hx hb htg hown hK hP dX12_keep_12 ?_
        have i_17 : 0 ≤ (fv_2 89).toInt ∧ (fv_2 89).toInt ≤ 441 := hF_fv_2 89
        refine lv_aload_n hx hb dX12_keep_15 rfl (lv_at hl 1 rfl) ?_
        refine lv_iload_n hx hb dX12_keep_16 rfl (lv_at hl 3 rfl) ?_
        refine lM_15 hx hb hK hP (iv_in i_14 (by decide) (by decide)) dX12_keep_17 (fun v_18 ev_18 => ?_)
        refine sM_88 hx hb hK hP hS hd (vp_in_iff.mpr (by omega)) dX12_keep_18 (fun H locs ar_19 ear_19 hP hS => ?_)
        have hA_ar_19 : rA ar_19 := rA_put hA_ar_4 ear_19 (iv_any _)
        refine lv_aload_n hx hb dX12_keep_19 rfl (lv_at hl 0 rfl) ?_
        refine lv_dup hx hb dX12_keep_20 rfl ?_
        refine gM_89 hx hb htg hown hK hP dX12_keep_21 ?_
        refine lv_iconst (v := 1) hx hb dX12_keep_24 (by decide) ?_
        refine lv_iadd hx hb dX12_keep_25 ?_
        refine lv_topi (fun v_20 ev_20 => ?_)
        have t_21 : v_20.toInt = (fv_2 89).toInt + 1 ∧ 1 ≤ v_20.toInt ∧ v_20.toInt ≤ 442 := iv_addc ev_20 i_17 (by decide) (by decide) (by decide)
        have i_23 : 0 ≤ v_20.toInt ∧ v_20.toInt ≤ 441 := (by omega)
        refine pM_89 hx hb htg hown hK hP hS hd dX12_keep_26 (fun H locs fv_24 efv_24 hP hS => ?_)
        have hF_fv_24 : rF fv_24 := rF_put hF_fv_2 efv_24 i_23
        obtain ⟨v_25, ev_25⟩ : ∃ z : Int32, z = x_1 + 1 := ⟨_, rfl⟩
        refine lv_iinc (v := v_25) (lv' := [(3, .int v_25), (0, .ref h), (1, .ref (ad 15)), (2, .int nn)]) hx hb dX12_keep_29 hl (k := 3) rfl (by rw [ev_25]; rfl) (by decide) rfl (fun ls hl => ?_)
        have t_26 : v_25.toInt = x_1.toInt + 1 ∧ 1 ≤ v_25.toInt ∧ v_25.toInt ≤ 40 := iv_addc ev_25 i_14 (by decide) (by decide) (by decide)
        refine lv_goto (tgt := 2) hx hb dX12_keep_32 (by decide) ?_
        have z_28 : (fv_24 89).toInt = v_20.toInt := congrArg Int32.toInt ((congrFun efv_24 89))
        have z_29 : 0 ≤ (fv_24 89).toInt ∧ (fv_24 89).toInt ≤ 441 := hF_fv_24 89
        exact ih_8 v_25 fv_24 ar_19 _ _ ls (by omega) (iv_w t_26.2 (by decide) (by decide)) hF_fv_24 (fM_put (fM_call (fM_rf [89] _) fr_3 (by decide)) efv_24 (by decide)) hA_ar_19 (fA_put (fA_call (fA_rf [88] _) fa_5 (by decide)) ear_19 (by decide)) (by omega) (by omega) hP hS (lv_sub hl [1, 2, 3, 0] rfl)
  · skip
    have z_30 : (0 : Int32).toInt = 0 := by decide
    have z_31 : 0 ≤ (fv 89).toInt ∧ (fv 89).toInt ≤ 441 := hF_fv 89
    exact hj_10 41 0 fv ar _ _ ls (by first | decide | omega) (iv_w (⟨by decide, by decide⟩ : (0 : Int) ≤ (0 : Int32).toInt ∧ (0 : Int32).toInt ≤ 0) (by decide) (by decide)) hF_fv (fM_rf [89] _) hA_ar (fA_rf [88] _) (by omega) (by omega) hP hS (lv_sub hl [1, 2, 3, 0] rfl)
set_option maxHeartbeats 4000000 in
set_option maxRecDepth 100000 in
theorem m_putBack_15 (l : Launch) (dC : Nat → ClassId) (dI : Nat → Nat → Nat) (sz h : Nat) (ad : Nat → Nat) (cA : Nat → ClassId) (hd : dM h ad) (fv : Nat → Int32) (wd : Int64) (ar : Nat → Nat → Int32) (hF_fv : rF fv) (hA_ar : rA ar) (nn : Int32) (h_nn : 0 ≤ nn.toInt ∧ nn.toInt ≤ 40) (hk : (fv 89).toInt + nn.toInt ≤ 441) : Met l yX12_putBack (.code yX12_putBack cX12_putBack 4 none :: lw_good) ({ frames := 2, cells := 0, slots := 0, locals := 40 }) (va_Pc [.ref h, .ref (ad 15), .int nn] (prM dC dI h ad cA fv wd ar sz)) (va_Qv (fun (u : mS) => rF u.1 ∧ rA u.2.2 ∧ fM [89] fv u.1 ∧ fA [15] ar u.2.2 ∧ ((u.1 89).toInt = (fv 89).toInt + nn.toInt) ∧ True) (enM dC dI h ad cA) (aM h ad sz)) 0 0 (aM h ad sz) := by
  refine Met.ofW (cc := cX12_putBack) (maxL := 4) (ret := none) (by decide) rfl ?_
  intro p e s m args below meth c s₁ B hml hv
  obtain ⟨rfl, hsz, hP, hK⟩ := hv
  have hx := B.exec
  have hb := B.bytes
  have hr := B.returns
  have hts := atoms_spec (ws := (.code yX12_putBack cX12_putBack 4 none :: lw_good)) B.pre
  have htg : ∀ w ∈ lw_good, w.before _ s = true := fun w hw => hts w (List.mem_cons_of_mem _ hw)
  have hown : s.vm.findClass RX12 = some m.cls := findClass_of_methodNamed B.named
  have hlocks := B.notSynchronized
  subst hsz
  have hS : va_S (aM h ad s.heap.size) s.heap s.heap [] := va_S.rf
  have hl := lv_entry ([.ref h, .ref (ad 15), .int nn]) (n := 4) (Nat.le_of_ble_eq_true rfl)
  rw [lg_entry_eq]
  generalize (lg_sl ([.ref h, .ref (ad 15), .int nn]) ++ List.replicate (4 - (lg_sl ([.ref h, .ref (ad 15), .int nn])).length) Slot.unset).toArray = ls at hl ⊢
  have hl : lv_has ls 4 [(0, .ref h), (1, .ref (ad 15)), (2, .int nn)] := hl
  refine lv_iconst (v := 0) hx hb dX12_putBack_0 (by decide) ?_
  refine lv_istore_n (lv' := [(3, .int 0), (0, .ref h), (1, .ref (ad 15)), (2, .int nn)]) hx hb dX12_putBack_1 rfl hl (by decide) rfl (fun ls hl => ?_)
  refine my_cut (P := fun R9 a9 Q9 => ∀ (n_8 : Nat) (x_1 : Int32) (fv_2 : Nat → Int32) (ar_4 : Nat → Nat → Int32) (H : Heap) (locs : List Loc) (ls : Array Slot), 40 - x_1.toInt < (n_8 : Int) → (0 ≤ x_1.toInt ∧ x_1.toInt ≤ 40) → rF fv_2 → fM [89] fv fv_2 → rA ar_4 → fA [15] ar ar_4 → ((fv_2 89).toInt = (fv 89).toInt + x_1.toInt) → (x_1.toInt ≤ nn.toInt) → va_P (dC, dI) vwCl (wsM h ad cA fv_2 wd ar_4) H → va_S (aM h ad s.heap.size) s.heap H locs → lv_has ls 4 [(0, .ref h), (1, .ref (ad 15)), (2, .int nn), (3, .int x_1)] → W p l e R9 s m a9 below meth c H locs 0 0 Q9 (F0 m 2 ls [])) ?_ (fun hj_10 => ?_)
  · intro n_8
    induction n_8 with
    | zero => intro x_1 fv_2 ar_4 H locs ls fu_9 i_x_1 hF_fv_2 fr_3 hA_ar_4 fa_5 q_6 q_7; exfalso; omega
    | succ n_8 ih_8 =>
      intro x_1 fv_2 ar_4 H locs ls fu_9 i_x_1 hF_fv_2 fr_3 hA_ar_4 fa_5 q_6 q_7 hP hS hl
      refine lv_iload_n hx hb dX12_putBack_2 rfl (lv_at hl 3 rfl) ?_
      refine lv_iload_n hx hb dX12_putBack_3 rfl (lv_at hl 2 rfl) ?_
      refine lv_icmp_ge (tgt := 35) hx hb dX12_putBack_4 (by decide) (fun c_11 => ?_) (fun c_11 => ?_)
      · skip
        have k_12 := Int32.le_iff_toInt_le.mp c_11
        have z_13 : 0 ≤ (fv_2 89).toInt ∧ (fv_2 89).toInt ≤ 441 := hF_fv_2 89
        exact W.vret hx hb hr (fun t ht hW => ⟨⟨(fv_2, wd, ar_4), rfl, ⟨hF_fv_2, hA_ar_4, (fM_call (fM_rf [89] _) fr_3 (by decide)), (fA_call (fA_rf [15] _) fa_5 (by decide)), (show (fv_2 89).toInt = (fv 89).toInt + nn.toInt from by omega), trivial⟩, ⟨by rw [ht]; exact hP, va_K.moved hW.alike hK⟩⟩, hS.F ht⟩) hS.2.2 dX12_putBack_35
      · skip
        have i_14 : 0 ≤ x_1.toInt ∧ x_1.toInt ≤ 39 := iv_lt1 i_x_1 h_nn (Int32.not_le.mp c_11)
        have i_15 : 1 ≤ nn.toInt ∧ nn.toInt ≤ 40 := iv_lt2 i_x_1 h_nn (Int32.not_le.mp c_11)
        have k_16 := Int32.lt_iff_toInt_lt.mp (Int32.not_le.mp c_11)
        refine lv_aload_n hx hb dX12_putBack_7 rfl (lv_at hl 1 rfl) ?_
        refine lv_iload_n hx hb dX12_putBack_8 rfl (lv_at hl 3 rfl) ?_
        refine lv_aload_n hx hb dX12_putBack_9 rfl (lv_at hl 0 rfl) ?_
        refine gM_88 hx hb htg hown hK hP dX12_putBack_10 ?_
        refine lv_aload_n hx hb dX12_putBack_13 rfl (lv_at hl 0 rfl) ?_
        refine gM_89 hx hb htg hown hK hP dX12_putBack_14 ?_
        have i_17 : 0 ≤ (fv_2 89).toInt ∧ (fv_2 89).toInt ≤ 441 := hF_fv_2 89
        refine lM_88 hx hb hK hP (vp_in_iff.mpr (by omega)) dX12_putBack_17 (fun v_18 ev_18 => ?_)
        refine sM_15 hx hb hK hP hS hd (iv_in i_14 (by decide) (by decide)) dX12_putBack_18 (fun H locs ar_19 ear_19 hP hS => ?_)
        have hA_ar_19 : rA ar_19 := rA_put hA_ar_4 ear_19 (iv_any _)
        refine lv_aload_n hx hb dX12_putBack_19 rfl (lv_at hl 0 rfl) ?_
        refine lv_dup hx hb dX12_putBack_20 rfl ?_
        refine gM_89 hx hb htg hown hK hP dX12_putBack_21 ?_
        refine lv_iconst (v := 1) hx hb dX12_putBack_24 (by decide) ?_
        refine lv_iadd hx hb dX12_putBack_25 ?_
        refine lv_topi (fun v_20 ev_20 => ?_)
        have t_21 : v_20.toInt = (fv_2 89).toInt + 1 ∧ 1 ≤ v_20.toInt ∧ v_20.toInt ≤ 442 := iv_addc ev_20 i_17 (by decide) (by decide) (by decide)
        have i_23 : 0 ≤ v_20.toInt ∧ v_20.toInt ≤ 441 := (by omega)
        refine pM_89 hx hb htg hown hK hP hS hd dX12_putBack_26 (fun H locs fv_24 efv_24 hP hS => ?_)
        have hF_fv_24 : rF fv_24 := rF_put hF_fv_2 efv_24 i_23
        obtain ⟨v_25, ev_25⟩ : ∃ z : Int32, z = x_1 + 1 := ⟨_, rfl⟩
        refine lv_iinc (v := v_25) (lv' := [(3, .int v_25), (0, .ref h), (1, .ref (ad 15)), (2, .int nn)]) hx hb dX12_putBack_29 hl (k := 3) rfl (by rw [ev_25]; rfl) (by decide) rfl (fun ls hl => ?_)
        have t_26 : v_25.toInt = x_1.toInt + 1 ∧ 1 ≤ v_25.toInt ∧ v_25.toInt ≤ 40 := iv_addc ev_25 i_14 (by decide) (by decide) (by decide)
        refine lv_goto (tgt := 2) hx hb dX12_putBack_32 (by decide) ?_
        have z_28 : (fv_24 89).toInt = v_20.toInt := congrArg Int32.toInt ((congrFun efv_24 89))
        have z_29 : 0 ≤ (fv_24 89).toInt ∧ (fv_24 89).toInt ≤ 441 := hF_fv_24 89
        exact ih_8 v_25 fv_24 ar_19 _ _ ls (by omega) (iv_w t_26.2 (by decide) (by decide)) hF_fv_24 (fM_put (fM_call (fM_rf [89] _) fr_3 (by decide)) efv_24 (by decide)) hA_ar_19 (fA_put (fA_call (fA_rf [15] _) fa_5 (by decide)) ear_19 (by decide)) (by omega) (by omega) hP hS (lv_sub hl [1, 2, 3, 0] rfl)
  · skip
    have z_30 : (0 : Int32).toInt = 0 := by decide
    have z_31 : 0 ≤ (fv 89).toInt ∧ (fv 89).toInt ≤ 441 := hF_fv 89
    exact hj_10 41 0 fv ar _ _ ls (by first | decide | omega) (iv_w (⟨by decide, by decide⟩ : (0 : Int) ≤ (0 : Int32).toInt ∧ (0 : Int32).toInt ≤ 0) (by decide) (by decide)) hF_fv (fM_rf [89] _) hA_ar (fA_rf [15] _) (by omega) (by omega) hP hS (lv_sub hl [1, 2, 3, 0] rfl)
set_option maxHeartbeats 4000000 in
set_option maxRecDepth 100000 in
theorem m_keep_16 (l : Launch) (dC : Nat → ClassId) (dI : Nat → Nat → Nat) (sz h : Nat) (ad : Nat → Nat) (cA : Nat → ClassId) (hd : dM h ad) (fv : Nat → Int32) (wd : Int64) (ar : Nat → Nat → Int32) (hF_fv : rF fv) (hA_ar : rA ar) (nn : Int32) (h_nn : 0 ≤ nn.toInt ∧ nn.toInt ≤ 40) (hk : (fv 89).toInt + nn.toInt ≤ 441) : Met l yX12_keep (.code yX12_keep cX12_keep 4 none :: lw_good) ({ frames := 2, cells := 0, slots := 0, locals := 40 }) (va_Pc [.ref h, .ref (ad 16), .int nn] (prM dC dI h ad cA fv wd ar sz)) (va_Qv (fun (u : mS) => rF u.1 ∧ rA u.2.2 ∧ fM [89] fv u.1 ∧ fA [88] ar u.2.2 ∧ ((u.1 89).toInt = (fv 89).toInt + nn.toInt) ∧ True) (enM dC dI h ad cA) (aM h ad sz)) 0 0 (aM h ad sz) := by
  refine Met.ofW (cc := cX12_keep) (maxL := 4) (ret := none) (by decide) rfl ?_
  intro p e s m args below meth c s₁ B hml hv
  obtain ⟨rfl, hsz, hP, hK⟩ := hv
  have hx := B.exec
  have hb := B.bytes
  have hr := B.returns
  have hts := atoms_spec (ws := (.code yX12_keep cX12_keep 4 none :: lw_good)) B.pre
  have htg : ∀ w ∈ lw_good, w.before _ s = true := fun w hw => hts w (List.mem_cons_of_mem _ hw)
  have hown : s.vm.findClass RX12 = some m.cls := findClass_of_methodNamed B.named
  have hlocks := B.notSynchronized
  subst hsz
  have hS : va_S (aM h ad s.heap.size) s.heap s.heap [] := va_S.rf
  have hl := lv_entry ([.ref h, .ref (ad 16), .int nn]) (n := 4) (Nat.le_of_ble_eq_true rfl)
  rw [lg_entry_eq]
  generalize (lg_sl ([.ref h, .ref (ad 16), .int nn]) ++ List.replicate (4 - (lg_sl ([.ref h, .ref (ad 16), .int nn])).length) Slot.unset).toArray = ls at hl ⊢
  have hl : lv_has ls 4 [(0, .ref h), (1, .ref (ad 16)), (2, .int nn)] := hl
  refine lv_iconst (v := 0) hx hb dX12_keep_0 (by decide) ?_
  refine lv_istore_n (lv' := [(3, .int 0), (0, .ref h), (1, .ref (ad 16)), (2, .int nn)]) hx hb dX12_keep_1 rfl hl (by decide) rfl (fun ls hl => ?_)
  refine my_cut (P := fun R9 a9 Q9 => ∀ (n_8 : Nat) (x_1 : Int32) (fv_2 : Nat → Int32) (ar_4 : Nat → Nat → Int32) (H : Heap) (locs : List Loc) (ls : Array Slot), 40 - x_1.toInt < (n_8 : Int) → (0 ≤ x_1.toInt ∧ x_1.toInt ≤ 40) → rF fv_2 → fM [89] fv fv_2 → rA ar_4 → fA [88] ar ar_4 → ((fv_2 89).toInt = (fv 89).toInt + x_1.toInt) → (x_1.toInt ≤ nn.toInt) → va_P (dC, dI) vwCl (wsM h ad cA fv_2 wd ar_4) H → va_S (aM h ad s.heap.size) s.heap H locs → lv_has ls 4 [(0, .ref h), (1, .ref (ad 16)), (2, .int nn), (3, .int x_1)] → W p l e R9 s m a9 below meth c H locs 0 0 Q9 (F0 m 2 ls [])) ?_ (fun hj_10 => ?_)
  · intro n_8
    induction n_8 with
    | zero => intro x_1 fv_2 ar_4 H locs ls fu_9 i_x_1 hF_fv_2 fr_3 hA_ar_4 fa_5 q_6 q_7; exfalso; omega
    | succ n_8 ih_8 =>
      intro x_1 fv_2 ar_4 H locs ls fu_9 i_x_1 hF_fv_2 fr_3 hA_ar_4 fa_5 q_6 q_7 hP hS hl
      refine lv_iload_n hx hb dX12_keep_2 rfl (lv_at hl 3 rfl) ?_
      refine lv_iload_n hx hb dX12_keep_3 rfl (lv_at hl 2 rfl) ?_
      refine lv_icmp_ge (tgt := 35) hx hb dX12_keep_4 (by decide) (fun c_11 => ?_) (fun c_11 => ?_)
      · skip
        have k_12 := Int32.le_iff_toInt_le.mp c_11
        have z_13 : 0 ≤ (fv_2 89).toInt ∧ (fv_2 89).toInt ≤ 441 := hF_fv_2 89
        exact W.vret hx hb hr (fun t ht hW => ⟨⟨(fv_2, wd, ar_4), rfl, ⟨hF_fv_2, hA_ar_4, (fM_call (fM_rf [89] _) fr_3 (by decide)), (fA_call (fA_rf [88] _) fa_5 (by decide)), (show (fv_2 89).toInt = (fv 89).toInt + nn.toInt from by omega), trivial⟩, ⟨by rw [ht]; exact hP, va_K.moved hW.alike hK⟩⟩, hS.F ht⟩) hS.2.2 dX12_keep_35
      · skip
        have i_14 : 0 ≤ x_1.toInt ∧ x_1.toInt ≤ 39 := iv_lt1 i_x_1 h_nn (Int32.not_le.mp c_11)
        have i_15 : 1 ≤ nn.toInt ∧ nn.toInt ≤ 40 := iv_lt2 i_x_1 h_nn (Int32.not_le.mp c_11)
        have k_16 := Int32.lt_iff_toInt_lt.mp (Int32.not_le.mp c_11)
        refine lv_aload_n hx hb dX12_keep_7 rfl (lv_at hl 0 rfl) ?_
        refine gM_88 hx hb htg hown hK hP dX12_keep_8 ?_
        refine lv_aload_n hx hb dX12_keep_11 rfl (lv_at hl 0 rfl) ?_
        refine gM_89 hx hb htg hown hK hP dX12_keep_12 ?_
        have i_17 : 0 ≤ (fv_2 89).toInt ∧ (fv_2 89).toInt ≤ 441 := hF_fv_2 89
        refine lv_aload_n hx hb dX12_keep_15 rfl (lv_at hl 1 rfl) ?_
        refine lv_iload_n hx hb dX12_keep_16 rfl (lv_at hl 3 rfl) ?_
        refine lM_16 hx hb hK hP (iv_in i_14 (by decide) (by decide)) dX12_keep_17 (fun v_18 ev_18 => ?_)
        refine sM_88 hx hb hK hP hS hd (vp_in_iff.mpr (by omega)) dX12_keep_18 (fun H locs ar_19 ear_19 hP hS => ?_)
        have hA_ar_19 : rA ar_19 := rA_put hA_ar_4 ear_19 (iv_any _)
        refine lv_aload_n hx hb dX12_keep_19 rfl (lv_at hl 0 rfl) ?_
        refine lv_dup hx hb dX12_keep_20 rfl ?_
        refine gM_89 hx hb htg hown hK hP dX12_keep_21 ?_
        refine lv_iconst (v := 1) hx hb dX12_keep_24 (by decide) ?_
        refine lv_iadd hx hb dX12_keep_25 ?_
        refine lv_topi (fun v_20 ev_20 => ?_)
        have t_21 : v_20.toInt = (fv_2 89).toInt + 1 ∧ 1 ≤ v_20.toInt ∧ v_20.toInt ≤ 442 := iv_addc ev_20 i_17 (by decide) (by decide) (by decide)
        have i_23 : 0 ≤ v_20.toInt ∧ v_20.toInt ≤ 441 := (by omega)
        refine pM_89 hx hb htg hown hK hP hS hd dX12_keep_26 (fun H locs fv_24 efv_24 hP hS => ?_)
        have hF_fv_24 : rF fv_24 := rF_put hF_fv_2 efv_24 i_23
        obtain ⟨v_25, ev_25⟩ : ∃ z : Int32, z = x_1 + 1 := ⟨_, rfl⟩
        refine lv_iinc (v := v_25) (lv' := [(3, .int v_25), (0, .ref h), (1, .ref (ad 16)), (2, .int nn)]) hx hb dX12_keep_29 hl (k := 3) rfl (by rw [ev_25]; rfl) (by decide) rfl (fun ls hl => ?_)
        have t_26 : v_25.toInt = x_1.toInt + 1 ∧ 1 ≤ v_25.toInt ∧ v_25.toInt ≤ 40 := iv_addc ev_25 i_14 (by decide) (by decide) (by decide)
        refine lv_goto (tgt := 2) hx hb dX12_keep_32 (by decide) ?_
        have z_28 : (fv_24 89).toInt = v_20.toInt := congrArg Int32.toInt ((congrFun efv_24 89))
        have z_29 : 0 ≤ (fv_24 89).toInt ∧ (fv_24 89).toInt ≤ 441 := hF_fv_24 89
        exact ih_8 v_25 fv_24 ar_19 _ _ ls (by omega) (iv_w t_26.2 (by decide) (by decide)) hF_fv_24 (fM_put (fM_call (fM_rf [89] _) fr_3 (by decide)) efv_24 (by decide)) hA_ar_19 (fA_put (fA_call (fA_rf [88] _) fa_5 (by decide)) ear_19 (by decide)) (by omega) (by omega) hP hS (lv_sub hl [1, 2, 3, 0] rfl)
  · skip
    have z_30 : (0 : Int32).toInt = 0 := by decide
    have z_31 : 0 ≤ (fv 89).toInt ∧ (fv 89).toInt ≤ 441 := hF_fv 89
    exact hj_10 41 0 fv ar _ _ ls (by first | decide | omega) (iv_w (⟨by decide, by decide⟩ : (0 : Int) ≤ (0 : Int32).toInt ∧ (0 : Int32).toInt ≤ 0) (by decide) (by decide)) hF_fv (fM_rf [89] _) hA_ar (fA_rf [88] _) (by omega) (by omega) hP hS (lv_sub hl [1, 2, 3, 0] rfl)
set_option maxHeartbeats 4000000 in
set_option maxRecDepth 100000 in
theorem m_putBack_16 (l : Launch) (dC : Nat → ClassId) (dI : Nat → Nat → Nat) (sz h : Nat) (ad : Nat → Nat) (cA : Nat → ClassId) (hd : dM h ad) (fv : Nat → Int32) (wd : Int64) (ar : Nat → Nat → Int32) (hF_fv : rF fv) (hA_ar : rA ar) (nn : Int32) (h_nn : 0 ≤ nn.toInt ∧ nn.toInt ≤ 40) (hk : (fv 89).toInt + nn.toInt ≤ 441) : Met l yX12_putBack (.code yX12_putBack cX12_putBack 4 none :: lw_good) ({ frames := 2, cells := 0, slots := 0, locals := 40 }) (va_Pc [.ref h, .ref (ad 16), .int nn] (prM dC dI h ad cA fv wd ar sz)) (va_Qv (fun (u : mS) => rF u.1 ∧ rA u.2.2 ∧ fM [89] fv u.1 ∧ fA [16] ar u.2.2 ∧ ((u.1 89).toInt = (fv 89).toInt + nn.toInt) ∧ True) (enM dC dI h ad cA) (aM h ad sz)) 0 0 (aM h ad sz) := by
  refine Met.ofW (cc := cX12_putBack) (maxL := 4) (ret := none) (by decide) rfl ?_
  intro p e s m args below meth c s₁ B hml hv
  obtain ⟨rfl, hsz, hP, hK⟩ := hv
  have hx := B.exec
  have hb := B.bytes
  have hr := B.returns
  have hts := atoms_spec (ws := (.code yX12_putBack cX12_putBack 4 none :: lw_good)) B.pre
  have htg : ∀ w ∈ lw_good, w.before _ s = true := fun w hw => hts w (List.mem_cons_of_mem _ hw)
  have hown : s.vm.findClass RX12 = some m.cls := findClass_of_methodNamed B.named
  have hlocks := B.notSynchronized
  subst hsz
  have hS : va_S (aM h ad s.heap.size) s.heap s.heap [] := va_S.rf
  have hl := lv_entry ([.ref h, .ref (ad 16), .int nn]) (n := 4) (Nat.le_of_ble_eq_true rfl)
  rw [lg_entry_eq]
  generalize (lg_sl ([.ref h, .ref (ad 16), .int nn]) ++ List.replicate (4 - (lg_sl ([.ref h, .ref (ad 16), .int nn])).length) Slot.unset).toArray = ls at hl ⊢
  have hl : lv_has ls 4 [(0, .ref h), (1, .ref (ad 16)), (2, .int nn)] := hl
  refine lv_iconst (v := 0) hx hb dX12_putBack_0 (by decide) ?_
  refine lv_istore_n (lv' := [(3, .int 0), (0, .ref h), (1, .ref (ad 16)), (2, .int nn)]) hx hb dX12_putBack_1 rfl hl (by decide) rfl (fun ls hl => ?_)
  refine my_cut (P := fun R9 a9 Q9 => ∀ (n_8 : Nat) (x_1 : Int32) (fv_2 : Nat → Int32) (ar_4 : Nat → Nat → Int32) (H : Heap) (locs : List Loc) (ls : Array Slot), 40 - x_1.toInt < (n_8 : Int) → (0 ≤ x_1.toInt ∧ x_1.toInt ≤ 40) → rF fv_2 → fM [89] fv fv_2 → rA ar_4 → fA [16] ar ar_4 → ((fv_2 89).toInt = (fv 89).toInt + x_1.toInt) → (x_1.toInt ≤ nn.toInt) → va_P (dC, dI) vwCl (wsM h ad cA fv_2 wd ar_4) H → va_S (aM h ad s.heap.size) s.heap H locs → lv_has ls 4 [(0, .ref h), (1, .ref (ad 16)), (2, .int nn), (3, .int x_1)] → W p l e R9 s m a9 below meth c H locs 0 0 Q9 (F0 m 2 ls [])) ?_ (fun hj_10 => ?_)
  · intro n_8
    induction n_8 with
    | zero => intro x_1 fv_2 ar_4 H locs ls fu_9 i_x_1 hF_fv_2 fr_3 hA_ar_4 fa_5 q_6 q_7; exfalso; omega
    | succ n_8 ih_8 =>
      intro x_1 fv_2 ar_4 H locs ls fu_9 i_x_1 hF_fv_2 fr_3 hA_ar_4 fa_5 q_6 q_7 hP hS hl
      refine lv_iload_n hx hb dX12_putBack_2 rfl (lv_at hl 3 rfl) ?_
      refine lv_iload_n hx hb dX12_putBack_3 rfl (lv_at hl 2 rfl) ?_
      refine lv_icmp_ge (tgt := 35) hx hb dX12_putBack_4 (by decide) (fun c_11 => ?_) (fun c_11 => ?_)
      · skip
        have k_12 := Int32.le_iff_toInt_le.mp c_11
        have z_13 : 0 ≤ (fv_2 89).toInt ∧ (fv_2 89).toInt ≤ 441 := hF_fv_2 89
        exact W.vret hx hb hr (fun t ht hW => ⟨⟨(fv_2, wd, ar_4), rfl, ⟨hF_fv_2, hA_ar_4, (fM_call (fM_rf [89] _) fr_3 (by decide)), (fA_call (fA_rf [16] _) fa_5 (by decide)), (show (fv_2 89).toInt = (fv 89).toInt + nn.toInt from by omega), trivial⟩, ⟨by rw [ht]; exact hP, va_K.moved hW.alike hK⟩⟩, hS.F ht⟩) hS.2.2 dX12_putBack_35
      · skip
        have i_14 : 0 ≤ x_1.toInt ∧ x_1.toInt ≤ 39 := iv_lt1 i_x_1 h_nn (Int32.not_le.mp c_11)
        have i_15 : 1 ≤ nn.toInt ∧ nn.toInt ≤ 40 := iv_lt2 i_x_1 h_nn (Int32.not_le.mp c_11)
        have k_16 := Int32.lt_iff_toInt_lt.mp (Int32.not_le.mp c_11)
        refine lv_aload_n hx hb dX12_putBack_7 rfl (lv_at hl 1 rfl) ?_
        refine lv_iload_n hx hb dX12_putBack_8 rfl (lv_at hl 3 rfl) ?_
        refine lv_aload_n hx hb dX12_putBack_9 rfl (lv_at hl 0 rfl) ?_
        refine gM_88 hx hb htg hown hK hP dX12_putBack_10 ?_
        refine lv_aload_n hx hb dX12_putBack_13 rfl (lv_at hl 0 rfl) ?_
        refine gM_89 hx hb htg hown hK hP dX12_putBack_14 ?_
        have i_17 : 0 ≤ (fv_2 89).toInt ∧ (fv_2 89).toInt ≤ 441 := hF_fv_2 89
        refine lM_88 hx hb hK hP (vp_in_iff.mpr (by omega)) dX12_putBack_17 (fun v_18 ev_18 => ?_)
        refine sM_16 hx hb hK hP hS hd (iv_in i_14 (by decide) (by decide)) dX12_putBack_18 (fun H locs ar_19 ear_19 hP hS => ?_)
        have hA_ar_19 : rA ar_19 := rA_put hA_ar_4 ear_19 (iv_any _)
        refine lv_aload_n hx hb dX12_putBack_19 rfl (lv_at hl 0 rfl) ?_
        refine lv_dup hx hb dX12_putBack_20 rfl ?_
        refine gM_89 hx hb htg hown hK hP dX12_putBack_21 ?_
        refine lv_iconst (v := 1) hx hb dX12_putBack_24 (by decide) ?_
        refine lv_iadd hx hb dX12_putBack_25 ?_
        refine lv_topi (fun v_20 ev_20 => ?_)
        have t_21 : v_20.toInt = (fv_2 89).toInt + 1 ∧ 1 ≤ v_20.toInt ∧ v_20.toInt ≤ 442 := iv_addc ev_20 i_17 (by decide) (by decide) (by decide)
        have i_23 : 0 ≤ v_20.toInt ∧ v_20.toInt ≤ 441 := (by omega)
        refine pM_89 hx hb htg hown hK hP hS hd dX12_putBack_26 (fun H locs fv_24 efv_24 hP hS => ?_)
        have hF_fv_24 : rF fv_24 := rF_put hF_fv_2 efv_24 i_23
        obtain ⟨v_25, ev_25⟩ : ∃ z : Int32, z = x_1 + 1 := ⟨_, rfl⟩
        refine lv_iinc (v := v_25) (lv' := [(3, .int v_25), (0, .ref h), (1, .ref (ad 16)), (2, .int nn)]) hx hb dX12_putBack_29 hl (k := 3) rfl (by rw [ev_25]; rfl) (by decide) rfl (fun ls hl => ?_)
        have t_26 : v_25.toInt = x_1.toInt + 1 ∧ 1 ≤ v_25.toInt ∧ v_25.toInt ≤ 40 := iv_addc ev_25 i_14 (by decide) (by decide) (by decide)
        refine lv_goto (tgt := 2) hx hb dX12_putBack_32 (by decide) ?_
        have z_28 : (fv_24 89).toInt = v_20.toInt := congrArg Int32.toInt ((congrFun efv_24 89))
        have z_29 : 0 ≤ (fv_24 89).toInt ∧ (fv_24 89).toInt ≤ 441 := hF_fv_24 89
        exact ih_8 v_25 fv_24 ar_19 _ _ ls (by omega) (iv_w t_26.2 (by decide) (by decide)) hF_fv_24 (fM_put (fM_call (fM_rf [89] _) fr_3 (by decide)) efv_24 (by decide)) hA_ar_19 (fA_put (fA_call (fA_rf [16] _) fa_5 (by decide)) ear_19 (by decide)) (by omega) (by omega) hP hS (lv_sub hl [1, 2, 3, 0] rfl)
  · skip
    have z_30 : (0 : Int32).toInt = 0 := by decide
    have z_31 : 0 ≤ (fv 89).toInt ∧ (fv 89).toInt ≤ 441 := hF_fv 89
    exact hj_10 41 0 fv ar _ _ ls (by first | decide | omega) (iv_w (⟨by decide, by decide⟩ : (0 : Int) ≤ (0 : Int32).toInt ∧ (0 : Int32).toInt ≤ 0) (by decide) (by decide)) hF_fv (fM_rf [89] _) hA_ar (fA_rf [16] _) (by omega) (by omega) hP hS (lv_sub hl [1, 2, 3, 0] rfl)
set_option maxHeartbeats 4000000 in
set_option maxRecDepth 100000 in
theorem m_keep_18 (l : Launch) (dC : Nat → ClassId) (dI : Nat → Nat → Nat) (sz h : Nat) (ad : Nat → Nat) (cA : Nat → ClassId) (hd : dM h ad) (fv : Nat → Int32) (wd : Int64) (ar : Nat → Nat → Int32) (hF_fv : rF fv) (hA_ar : rA ar) (nn : Int32) (h_nn : 0 ≤ nn.toInt ∧ nn.toInt ≤ 40) (hk : (fv 89).toInt + nn.toInt ≤ 441) : Met l yX12_keep (.code yX12_keep cX12_keep 4 none :: lw_good) ({ frames := 2, cells := 0, slots := 0, locals := 40 }) (va_Pc [.ref h, .ref (ad 18), .int nn] (prM dC dI h ad cA fv wd ar sz)) (va_Qv (fun (u : mS) => rF u.1 ∧ rA u.2.2 ∧ fM [89] fv u.1 ∧ fA [88] ar u.2.2 ∧ ((u.1 89).toInt = (fv 89).toInt + nn.toInt) ∧ True) (enM dC dI h ad cA) (aM h ad sz)) 0 0 (aM h ad sz) := by
  refine Met.ofW (cc := cX12_keep) (maxL := 4) (ret := none) (by decide) rfl ?_
  intro p e s m args below meth c s₁ B hml hv
  obtain ⟨rfl, hsz, hP, hK⟩ := hv
  have hx := B.exec
  have hb := B.bytes
  have hr := B.returns
  have hts := atoms_spec (ws := (.code yX12_keep cX12_keep 4 none :: lw_good)) B.pre
  have htg : ∀ w ∈ lw_good, w.before _ s = true := fun w hw => hts w (List.mem_cons_of_mem _ hw)
  have hown : s.vm.findClass RX12 = some m.cls := findClass_of_methodNamed B.named
  have hlocks := B.notSynchronized
  subst hsz
  have hS : va_S (aM h ad s.heap.size) s.heap s.heap [] := va_S.rf
  have hl := lv_entry ([.ref h, .ref (ad 18), .int nn]) (n := 4) (Nat.le_of_ble_eq_true rfl)
  rw [lg_entry_eq]
  generalize (lg_sl ([.ref h, .ref (ad 18), .int nn]) ++ List.replicate (4 - (lg_sl ([.ref h, .ref (ad 18), .int nn])).length) Slot.unset).toArray = ls at hl ⊢
  have hl : lv_has ls 4 [(0, .ref h), (1, .ref (ad 18)), (2, .int nn)] := hl
  refine lv_iconst (v := 0) hx hb dX12_keep_0 (by decide) ?_
  refine lv_istore_n (lv' := [(3, .int 0), (0, .ref h), (1, .ref (ad 18)), (2, .int nn)]) hx hb dX12_keep_1 rfl hl (by decide) rfl (fun ls hl => ?_)
  refine my_cut (P := fun R9 a9 Q9 => ∀ (n_8 : Nat) (x_1 : Int32) (fv_2 : Nat → Int32) (ar_4 : Nat → Nat → Int32) (H : Heap) (locs : List Loc) (ls : Array Slot), 40 - x_1.toInt < (n_8 : Int) → (0 ≤ x_1.toInt ∧ x_1.toInt ≤ 40) → rF fv_2 → fM [89] fv fv_2 → rA ar_4 → fA [88] ar ar_4 → ((fv_2 89).toInt = (fv 89).toInt + x_1.toInt) → (x_1.toInt ≤ nn.toInt) → va_P (dC, dI) vwCl (wsM h ad cA fv_2 wd ar_4) H → va_S (aM h ad s.heap.size) s.heap H locs → lv_has ls 4 [(0, .ref h), (1, .ref (ad 18)), (2, .int nn), (3, .int x_1)] → W p l e R9 s m a9 below meth c H locs 0 0 Q9 (F0 m 2 ls [])) ?_ (fun hj_10 => ?_)
  · intro n_8
    induction n_8 with
    | zero => intro x_1 fv_2 ar_4 H locs ls fu_9 i_x_1 hF_fv_2 fr_3 hA_ar_4 fa_5 q_6 q_7; exfalso; omega
    | succ n_8 ih_8 =>
      intro x_1 fv_2 ar_4 H locs ls fu_9 i_x_1 hF_fv_2 fr_3 hA_ar_4 fa_5 q_6 q_7 hP hS hl
      refine lv_iload_n hx hb dX12_keep_2 rfl (lv_at hl 3 rfl) ?_
      refine lv_iload_n hx hb dX12_keep_3 rfl (lv_at hl 2 rfl) ?_
      refine lv_icmp_ge (tgt := 35) hx hb dX12_keep_4 (by decide) (fun c_11 => ?_) (fun c_11 => ?_)
      · skip
        have k_12 := Int32.le_iff_toInt_le.mp c_11
        have z_13 : 0 ≤ (fv_2 89).toInt ∧ (fv_2 89).toInt ≤ 441 := hF_fv_2 89
        exact W.vret hx hb hr (fun t ht hW => ⟨⟨(fv_2, wd, ar_4), rfl, ⟨hF_fv_2, hA_ar_4, (fM_call (fM_rf [89] _) fr_3 (by decide)), (fA_call (fA_rf [88] _) fa_5 (by decide)), (show (fv_2 89).toInt = (fv 89).toInt + nn.toInt from by omega), trivial⟩, ⟨by rw [ht]; exact hP, va_K.moved hW.alike hK⟩⟩, hS.F ht⟩) hS.2.2 dX12_keep_35
      · skip
        have i_14 : 0 ≤ x_1.toInt ∧ x_1.toInt ≤ 39 := iv_lt1 i_x_1 h_nn (Int32.not_le.mp c_11)
        have i_15 : 1 ≤ nn.toInt ∧ nn.toInt ≤ 40 := iv_lt2 i_x_1 h_nn (Int32.not_le.mp c_11)
        have k_16 := Int32.lt_iff_toInt_lt.mp (Int32.not_le.mp c_11)
        refine lv_aload_n hx hb dX12_keep_7 rfl (lv_at hl 0 rfl) ?_
        refine gM_88 hx hb htg hown hK hP dX12_keep_8 ?_
        refine lv_aload_n hx hb dX12_keep_11 rfl (lv_at hl 0 rfl) ?_
        refine gM_89 hx hb htg hown hK hP dX12_keep_12 ?_
        have i_17 : 0 ≤ (fv_2 89).toInt ∧ (fv_2 89).toInt ≤ 441 := hF_fv_2 89
        refine lv_aload_n hx hb dX12_keep_15 rfl (lv_at hl 1 rfl) ?_
        refine lv_iload_n hx hb dX12_keep_16 rfl (lv_at hl 3 rfl) ?_
        refine lM_18 hx hb hK hP (iv_in i_14 (by decide) (by decide)) dX12_keep_17 (fun v_18 ev_18 => ?_)
        refine sM_88 hx hb hK hP hS hd (vp_in_iff.mpr (by omega)) dX12_keep_18 (fun H locs ar_19 ear_19 hP hS => ?_)
        have hA_ar_19 : rA ar_19 := rA_put hA_ar_4 ear_19 (iv_any _)
        refine lv_aload_n hx hb dX12_keep_19 rfl (lv_at hl 0 rfl) ?_
        refine lv_dup hx hb dX12_keep_20 rfl ?_
        refine gM_89 hx hb htg hown hK hP dX12_keep_21 ?_
        refine lv_iconst (v := 1) hx hb dX12_keep_24 (by decide) ?_
        refine lv_iadd hx hb dX12_keep_25 ?_
        refine lv_topi (fun v_20 ev_20 => ?_)
        have t_21 : v_20.toInt = (fv_2 89).toInt + 1 ∧ 1 ≤ v_20.toInt ∧ v_20.toInt ≤ 442 := iv_addc ev_20 i_17 (by decide) (by decide) (by decide)
        have i_23 : 0 ≤ v_20.toInt ∧ v_20.toInt ≤ 441 := (by omega)
        refine pM_89 hx hb htg hown hK hP hS hd dX12_keep_26 (fun H locs fv_24 efv_24 hP hS => ?_)
        have hF_fv_24 : rF fv_24 := rF_put hF_fv_2 efv_24 i_23
        obtain ⟨v_25, ev_25⟩ : ∃ z : Int32, z = x_1 + 1 := ⟨_, rfl⟩
        refine lv_iinc (v := v_25) (lv' := [(3, .int v_25), (0, .ref h), (1, .ref (ad 18)), (2, .int nn)]) hx hb dX12_keep_29 hl (k := 3) rfl (by rw [ev_25]; rfl) (by decide) rfl (fun ls hl => ?_)
        have t_26 : v_25.toInt = x_1.toInt + 1 ∧ 1 ≤ v_25.toInt ∧ v_25.toInt ≤ 40 := iv_addc ev_25 i_14 (by decide) (by decide) (by decide)
        refine lv_goto (tgt := 2) hx hb dX12_keep_32 (by decide) ?_
        have z_28 : (fv_24 89).toInt = v_20.toInt := congrArg Int32.toInt ((congrFun efv_24 89))
        have z_29 : 0 ≤ (fv_24 89).toInt ∧ (fv_24 89).toInt ≤ 441 := hF_fv_24 89
        exact ih_8 v_25 fv_24 ar_19 _ _ ls (by omega) (iv_w t_26.2 (by decide) (by decide)) hF_fv_24 (fM_put (fM_call (fM_rf [89] _) fr_3 (by decide)) efv_24 (by decide)) hA_ar_19 (fA_put (fA_call (fA_rf [88] _) fa_5 (by decide)) ear_19 (by decide)) (by omega) (by omega) hP hS (lv_sub hl [1, 2, 3, 0] rfl)
  · skip
    have z_30 : (0 : Int32).toInt = 0 := by decide
    have z_31 : 0 ≤ (fv 89).toInt ∧ (fv 89).toInt ≤ 441 := hF_fv 89
    exact hj_10 41 0 fv ar _ _ ls (by first | decide | omega) (iv_w (⟨by decide, by decide⟩ : (0 : Int) ≤ (0 : Int32).toInt ∧ (0 : Int32).toInt ≤ 0) (by decide) (by decide)) hF_fv (fM_rf [89] _) hA_ar (fA_rf [88] _) (by omega) (by omega) hP hS (lv_sub hl [1, 2, 3, 0] rfl)
set_option maxHeartbeats 4000000 in
set_option maxRecDepth 100000 in
theorem m_putBack_18 (l : Launch) (dC : Nat → ClassId) (dI : Nat → Nat → Nat) (sz h : Nat) (ad : Nat → Nat) (cA : Nat → ClassId) (hd : dM h ad) (fv : Nat → Int32) (wd : Int64) (ar : Nat → Nat → Int32) (hF_fv : rF fv) (hA_ar : rA ar) (nn : Int32) (h_nn : 0 ≤ nn.toInt ∧ nn.toInt ≤ 40) (hk : (fv 89).toInt + nn.toInt ≤ 441) : Met l yX12_putBack (.code yX12_putBack cX12_putBack 4 none :: lw_good) ({ frames := 2, cells := 0, slots := 0, locals := 40 }) (va_Pc [.ref h, .ref (ad 18), .int nn] (prM dC dI h ad cA fv wd ar sz)) (va_Qv (fun (u : mS) => rF u.1 ∧ rA u.2.2 ∧ fM [89] fv u.1 ∧ fA [18] ar u.2.2 ∧ ((u.1 89).toInt = (fv 89).toInt + nn.toInt) ∧ True) (enM dC dI h ad cA) (aM h ad sz)) 0 0 (aM h ad sz) := by
  refine Met.ofW (cc := cX12_putBack) (maxL := 4) (ret := none) (by decide) rfl ?_
  intro p e s m args below meth c s₁ B hml hv
  obtain ⟨rfl, hsz, hP, hK⟩ := hv
  have hx := B.exec
  have hb := B.bytes
  have hr := B.returns
  have hts := atoms_spec (ws := (.code yX12_putBack cX12_putBack 4 none :: lw_good)) B.pre
  have htg : ∀ w ∈ lw_good, w.before _ s = true := fun w hw => hts w (List.mem_cons_of_mem _ hw)
  have hown : s.vm.findClass RX12 = some m.cls := findClass_of_methodNamed B.named
  have hlocks := B.notSynchronized
  subst hsz
  have hS : va_S (aM h ad s.heap.size) s.heap s.heap [] := va_S.rf
  have hl := lv_entry ([.ref h, .ref (ad 18), .int nn]) (n := 4) (Nat.le_of_ble_eq_true rfl)
  rw [lg_entry_eq]
  generalize (lg_sl ([.ref h, .ref (ad 18), .int nn]) ++ List.replicate (4 - (lg_sl ([.ref h, .ref (ad 18), .int nn])).length) Slot.unset).toArray = ls at hl ⊢
  have hl : lv_has ls 4 [(0, .ref h), (1, .ref (ad 18)), (2, .int nn)] := hl
  refine lv_iconst (v := 0) hx hb dX12_putBack_0 (by decide) ?_
  refine lv_istore_n (lv' := [(3, .int 0), (0, .ref h), (1, .ref (ad 18)), (2, .int nn)]) hx hb dX12_putBack_1 rfl hl (by decide) rfl (fun ls hl => ?_)
  refine my_cut (P := fun R9 a9 Q9 => ∀ (n_8 : Nat) (x_1 : Int32) (fv_2 : Nat → Int32) (ar_4 : Nat → Nat → Int32) (H : Heap) (locs : List Loc) (ls : Array Slot), 40 - x_1.toInt < (n_8 : Int) → (0 ≤ x_1.toInt ∧ x_1.toInt ≤ 40) → rF fv_2 → fM [89] fv fv_2 → rA ar_4 → fA [18] ar ar_4 → ((fv_2 89).toInt = (fv 89).toInt + x_1.toInt) → (x_1.toInt ≤ nn.toInt) → va_P (dC, dI) vwCl (wsM h ad cA fv_2 wd ar_4) H → va_S (aM h ad s.heap.size) s.heap H locs → lv_has ls 4 [(0, .ref h), (1, .ref (ad 18)), (2, .int nn), (3, .int x_1)] → W p l e R9 s m a9 below meth c H locs 0 0 Q9 (F0 m 2 ls [])) ?_ (fun hj_10 => ?_)
  · intro n_8
    induction n_8 with
    | zero => intro x_1 fv_2 ar_4 H locs ls fu_9 i_x_1 hF_fv_2 fr_3 hA_ar_4 fa_5 q_6 q_7; exfalso; omega
    | succ n_8 ih_8 =>
      intro x_1 fv_2 ar_4 H locs ls fu_9 i_x_1 hF_fv_2 fr_3 hA_ar_4 fa_5 q_6 q_7 hP hS hl
      refine lv_iload_n hx hb dX12_putBack_2 rfl (lv_at hl 3 rfl) ?_
      refine lv_iload_n hx hb dX12_putBack_3 rfl (lv_at hl 2 rfl) ?_
      refine lv_icmp_ge (tgt := 35) hx hb dX12_putBack_4 (by decide) (fun c_11 => ?_) (fun c_11 => ?_)
      · skip
        have k_12 := Int32.le_iff_toInt_le.mp c_11
        have z_13 : 0 ≤ (fv_2 89).toInt ∧ (fv_2 89).toInt ≤ 441 := hF_fv_2 89
        exact W.vret hx hb hr (fun t ht hW => ⟨⟨(fv_2, wd, ar_4), rfl, ⟨hF_fv_2, hA_ar_4, (fM_call (fM_rf [89] _) fr_3 (by decide)), (fA_call (fA_rf [18] _) fa_5 (by decide)), (show (fv_2 89).toInt = (fv 89).toInt + nn.toInt from by omega), trivial⟩, ⟨by rw [ht]; exact hP, va_K.moved hW.alike hK⟩⟩, hS.F ht⟩) hS.2.2 dX12_putBack_35
      · skip
        have i_14 : 0 ≤ x_1.toInt ∧ x_1.toInt ≤ 39 := iv_lt1 i_x_1 h_nn (Int32.not_le.mp c_11)
        have i_15 : 1 ≤ nn.toInt ∧ nn.toInt ≤ 40 := iv_lt2 i_x_1 h_nn (Int32.not_le.mp c_11)
        have k_16 := Int32.lt_iff_toInt_lt.mp (Int32.not_le.mp c_11)
        refine lv_aload_n hx hb dX12_putBack_7 rfl (lv_at hl 1 rfl) ?_
        refine lv_iload_n hx hb dX12_putBack_8 rfl (lv_at hl 3 rfl) ?_
        refine lv_aload_n hx hb dX12_putBack_9 rfl (lv_at hl 0 rfl) ?_
        refine gM_88 hx hb htg hown hK hP dX12_putBack_10 ?_
        refine lv_aload_n hx hb dX12_putBack_13 rfl (lv_at hl 0 rfl) ?_
        refine gM_89 hx hb htg hown hK hP dX12_putBack_14 ?_
        have i_17 : 0 ≤ (fv_2 89).toInt ∧ (fv_2 89).toInt ≤ 441 := hF_fv_2 89
        refine lM_88 hx hb hK hP (vp_in_iff.mpr (by omega)) dX12_putBack_17 (fun v_18 ev_18 => ?_)
        refine sM_18 hx hb hK hP hS hd (iv_in i_14 (by decide) (by decide)) dX12_putBack_18 (fun H locs ar_19 ear_19 hP hS => ?_)
        have hA_ar_19 : rA ar_19 := rA_put hA_ar_4 ear_19 (iv_any _)
        refine lv_aload_n hx hb dX12_putBack_19 rfl (lv_at hl 0 rfl) ?_
        refine lv_dup hx hb dX12_putBack_20 rfl ?_
        refine gM_89 hx hb htg hown hK hP dX12_putBack_21 ?_
        refine lv_iconst (v := 1) hx hb dX12_putBack_24 (by decide) ?_
        refine lv_iadd hx hb dX12_putBack_25 ?_
        refine lv_topi (fun v_20 ev_20 => ?_)
        have t_21 : v_20.toInt = (fv_2 89).toInt + 1 ∧ 1 ≤ v_20.toInt ∧ v_20.toInt ≤ 442 := iv_addc ev_20 i_17 (by decide) (by decide) (by decide)
        have i_23 : 0 ≤ v_20.toInt ∧ v_20.toInt ≤ 441 := (by omega)
        refine pM_89 hx hb htg hown hK hP hS hd dX12_putBack_26 (fun H locs fv_24 efv_24 hP hS => ?_)
        have hF_fv_24 : rF fv_24 := rF_put hF_fv_2 efv_24 i_23
        obtain ⟨v_25, ev_25⟩ : ∃ z : Int32, z = x_1 + 1 := ⟨_, rfl⟩
        refine lv_iinc (v := v_25) (lv' := [(3, .int v_25), (0, .ref h), (1, .ref (ad 18)), (2, .int nn)]) hx hb dX12_putBack_29 hl (k := 3) rfl (by rw [ev_25]; rfl) (by decide) rfl (fun ls hl => ?_)
        have t_26 : v_25.toInt = x_1.toInt + 1 ∧ 1 ≤ v_25.toInt ∧ v_25.toInt ≤ 40 := iv_addc ev_25 i_14 (by decide) (by decide) (by decide)
        refine lv_goto (tgt := 2) hx hb dX12_putBack_32 (by decide) ?_
        have z_28 : (fv_24 89).toInt = v_20.toInt := congrArg Int32.toInt ((congrFun efv_24 89))
        have z_29 : 0 ≤ (fv_24 89).toInt ∧ (fv_24 89).toInt ≤ 441 := hF_fv_24 89
        exact ih_8 v_25 fv_24 ar_19 _ _ ls (by omega) (iv_w t_26.2 (by decide) (by decide)) hF_fv_24 (fM_put (fM_call (fM_rf [89] _) fr_3 (by decide)) efv_24 (by decide)) hA_ar_19 (fA_put (fA_call (fA_rf [18] _) fa_5 (by decide)) ear_19 (by decide)) (by omega) (by omega) hP hS (lv_sub hl [1, 2, 3, 0] rfl)
  · skip
    have z_30 : (0 : Int32).toInt = 0 := by decide
    have z_31 : 0 ≤ (fv 89).toInt ∧ (fv 89).toInt ≤ 441 := hF_fv 89
    exact hj_10 41 0 fv ar _ _ ls (by first | decide | omega) (iv_w (⟨by decide, by decide⟩ : (0 : Int) ≤ (0 : Int32).toInt ∧ (0 : Int32).toInt ≤ 0) (by decide) (by decide)) hF_fv (fM_rf [89] _) hA_ar (fA_rf [18] _) (by omega) (by omega) hP hS (lv_sub hl [1, 2, 3, 0] rfl)
set_option maxHeartbeats 4000000 in
set_option maxRecDepth 100000 in
theorem m_keep_72 (l : Launch) (dC : Nat → ClassId) (dI : Nat → Nat → Nat) (sz h : Nat) (ad : Nat → Nat) (cA : Nat → ClassId) (hd : dM h ad) (fv : Nat → Int32) (wd : Int64) (ar : Nat → Nat → Int32) (hF_fv : rF fv) (hA_ar : rA ar) (nn : Int32) (h_nn : 0 ≤ nn.toInt ∧ nn.toInt ≤ 40) (hk : (fv 89).toInt + nn.toInt ≤ 441) : Met l yX12_keep (.code yX12_keep cX12_keep 4 none :: lw_good) ({ frames := 2, cells := 0, slots := 0, locals := 40 }) (va_Pc [.ref h, .ref (ad 72), .int nn] (prM dC dI h ad cA fv wd ar sz)) (va_Qv (fun (u : mS) => rF u.1 ∧ rA u.2.2 ∧ fM [89] fv u.1 ∧ fA [88] ar u.2.2 ∧ ((u.1 89).toInt = (fv 89).toInt + nn.toInt) ∧ True) (enM dC dI h ad cA) (aM h ad sz)) 0 0 (aM h ad sz) := by
  refine Met.ofW (cc := cX12_keep) (maxL := 4) (ret := none) (by decide) rfl ?_
  intro p e s m args below meth c s₁ B hml hv
  obtain ⟨rfl, hsz, hP, hK⟩ := hv
  have hx := B.exec
  have hb := B.bytes
  have hr := B.returns
  have hts := atoms_spec (ws := (.code yX12_keep cX12_keep 4 none :: lw_good)) B.pre
  have htg : ∀ w ∈ lw_good, w.before _ s = true := fun w hw => hts w (List.mem_cons_of_mem _ hw)
  have hown : s.vm.findClass RX12 = some m.cls := findClass_of_methodNamed B.named
  have hlocks := B.notSynchronized
  subst hsz
  have hS : va_S (aM h ad s.heap.size) s.heap s.heap [] := va_S.rf
  have hl := lv_entry ([.ref h, .ref (ad 72), .int nn]) (n := 4) (Nat.le_of_ble_eq_true rfl)
  rw [lg_entry_eq]
  generalize (lg_sl ([.ref h, .ref (ad 72), .int nn]) ++ List.replicate (4 - (lg_sl ([.ref h, .ref (ad 72), .int nn])).length) Slot.unset).toArray = ls at hl ⊢
  have hl : lv_has ls 4 [(0, .ref h), (1, .ref (ad 72)), (2, .int nn)] := hl
  refine lv_iconst (v := 0) hx hb dX12_keep_0 (by decide) ?_
  refine lv_istore_n (lv' := [(3, .int 0), (0, .ref h), (1, .ref (ad 72)), (2, .int nn)]) hx hb dX12_keep_1 rfl hl (by decide) rfl (fun ls hl => ?_)
  refine my_cut (P := fun R9 a9 Q9 => ∀ (n_8 : Nat) (x_1 : Int32) (fv_2 : Nat → Int32) (ar_4 : Nat → Nat → Int32) (H : Heap) (locs : List Loc) (ls : Array Slot), 40 - x_1.toInt < (n_8 : Int) → (0 ≤ x_1.toInt ∧ x_1.toInt ≤ 40) → rF fv_2 → fM [89] fv fv_2 → rA ar_4 → fA [88] ar ar_4 → ((fv_2 89).toInt = (fv 89).toInt + x_1.toInt) → (x_1.toInt ≤ nn.toInt) → va_P (dC, dI) vwCl (wsM h ad cA fv_2 wd ar_4) H → va_S (aM h ad s.heap.size) s.heap H locs → lv_has ls 4 [(0, .ref h), (1, .ref (ad 72)), (2, .int nn), (3, .int x_1)] → W p l e R9 s m a9 below meth c H locs 0 0 Q9 (F0 m 2 ls [])) ?_ (fun hj_10 => ?_)
  · intro n_8
    induction n_8 with
    | zero => intro x_1 fv_2 ar_4 H locs ls fu_9 i_x_1 hF_fv_2 fr_3 hA_ar_4 fa_5 q_6 q_7; exfalso; omega
    | succ n_8 ih_8 =>
      intro x_1 fv_2 ar_4 H locs ls fu_9 i_x_1 hF_fv_2 fr_3 hA_ar_4 fa_5 q_6 q_7 hP hS hl
      refine lv_iload_n hx hb dX12_keep_2 rfl (lv_at hl 3 rfl) ?_
      refine lv_iload_n hx hb dX12_keep_3 rfl (lv_at hl 2 rfl) ?_
      refine lv_icmp_ge (tgt := 35) hx hb dX12_keep_4 (by decide) (fun c_11 => ?_) (fun c_11 => ?_)
      · skip
        have k_12 := Int32.le_iff_toInt_le.mp c_11
        have z_13 : 0 ≤ (fv_2 89).toInt ∧ (fv_2 89).toInt ≤ 441 := hF_fv_2 89
        exact W.vret hx hb hr (fun t ht hW => ⟨⟨(fv_2, wd, ar_4), rfl, ⟨hF_fv_2, hA_ar_4, (fM_call (fM_rf [89] _) fr_3 (by decide)), (fA_call (fA_rf [88] _) fa_5 (by decide)), (show (fv_2 89).toInt = (fv 89).toInt + nn.toInt from by omega), trivial⟩, ⟨by rw [ht]; exact hP, va_K.moved hW.alike hK⟩⟩, hS.F ht⟩) hS.2.2 dX12_keep_35
      · skip
        have i_14 : 0 ≤ x_1.toInt ∧ x_1.toInt ≤ 39 := iv_lt1 i_x_1 h_nn (Int32.not_le.mp c_11)
        have i_15 : 1 ≤ nn.toInt ∧ nn.toInt ≤ 40 := iv_lt2 i_x_1 h_nn (Int32.not_le.mp c_11)
        have k_16 := Int32.lt_iff_toInt_lt.mp (Int32.not_le.mp c_11)
        refine lv_aload_n hx hb dX12_keep_7 rfl (lv_at hl 0 rfl) ?_
        refine gM_88 hx hb htg hown hK hP dX12_keep_8 ?_
        refine lv_aload_n hx hb dX12_keep_11 rfl (lv_at hl 0 rfl) ?_
        refine gM_89 hx hb htg hown hK hP dX12_keep_12 ?_
        have i_17 : 0 ≤ (fv_2 89).toInt ∧ (fv_2 89).toInt ≤ 441 := hF_fv_2 89
        refine lv_aload_n hx hb dX12_keep_15 rfl (lv_at hl 1 rfl) ?_
        refine lv_iload_n hx hb dX12_keep_16 rfl (lv_at hl 3 rfl) ?_
        refine lM_72 hx hb hK hP (iv_in i_14 (by decide) (by decide)) dX12_keep_17 (fun v_18 ev_18 => ?_)
        refine sM_88 hx hb hK hP hS hd (vp_in_iff.mpr (by omega)) dX12_keep_18 (fun H locs ar_19 ear_19 hP hS => ?_)
        have hA_ar_19 : rA ar_19 := rA_put hA_ar_4 ear_19 (iv_any _)
        refine lv_aload_n hx hb dX12_keep_19 rfl (lv_at hl 0 rfl) ?_
        refine lv_dup hx hb dX12_keep_20 rfl ?_
        refine gM_89 hx hb htg hown hK hP dX12_keep_21 ?_
        refine lv_iconst (v := 1) hx hb dX12_keep_24 (by decide) ?_
        refine lv_iadd hx hb dX12_keep_25 ?_
        refine lv_topi (fun v_20 ev_20 => ?_)
        have t_21 : v_20.toInt = (fv_2 89).toInt + 1 ∧ 1 ≤ v_20.toInt ∧ v_20.toInt ≤ 442 := iv_addc ev_20 i_17 (by decide) (by decide) (by decide)
        have i_23 : 0 ≤ v_20.toInt ∧ v_20.toInt ≤ 441 := (by omega)
        refine pM_89 hx hb htg hown hK hP hS hd dX12_keep_26 (fun H locs fv_24 efv_24 hP hS => ?_)
        have hF_fv_24 : rF fv_24 := rF_put hF_fv_2 efv_24 i_23
        obtain ⟨v_25, ev_25⟩ : ∃ z : Int32, z = x_1 + 1 := ⟨_, rfl⟩
        refine lv_iinc (v := v_25) (lv' := [(3, .int v_25), (0, .ref h), (1, .ref (ad 72)), (2, .int nn)]) hx hb dX12_keep_29 hl (k := 3) rfl (by rw [ev_25]; rfl) (by decide) rfl (fun ls hl => ?_)
        have t_26 : v_25.toInt = x_1.toInt + 1 ∧ 1 ≤ v_25.toInt ∧ v_25.toInt ≤ 40 := iv_addc ev_25 i_14 (by decide) (by decide) (by decide)
        refine lv_goto (tgt := 2) hx hb dX12_keep_32 (by decide) ?_
        have z_28 : (fv_24 89).toInt = v_20.toInt := congrArg Int32.toInt ((congrFun efv_24 89))
        have z_29 : 0 ≤ (fv_24 89).toInt ∧ (fv_24 89).toInt ≤ 441 := hF_fv_24 89
        exact ih_8 v_25 fv_24 ar_19 _ _ ls (by omega) (iv_w t_26.2 (by decide) (by decide)) hF_fv_24 (fM_put (fM_call (fM_rf [89] _) fr_3 (by decide)) efv_24 (by decide)) hA_ar_19 (fA_put (fA_call (fA_rf [88] _) fa_5 (by decide)) ear_19 (by decide)) (by omega) (by omega) hP hS (lv_sub hl [1, 2, 3, 0] rfl)
  · skip
    have z_30 : (0 : Int32).toInt = 0 := by decide
    have z_31 : 0 ≤ (fv 89).toInt ∧ (fv 89).toInt ≤ 441 := hF_fv 89
    exact hj_10 41 0 fv ar _ _ ls (by first | decide | omega) (iv_w (⟨by decide, by decide⟩ : (0 : Int) ≤ (0 : Int32).toInt ∧ (0 : Int32).toInt ≤ 0) (by decide) (by decide)) hF_fv (fM_rf [89] _) hA_ar (fA_rf [88] _) (by omega) (by omega) hP hS (lv_sub hl [1, 2, 3, 0] rfl)
set_option maxHeartbeats 4000000 in
set_option maxRecDepth 100000 in
theorem m_putBack_72 (l : Launch) (dC : Nat → ClassId) (dI : Nat → Nat → Nat) (sz h : Nat) (ad : Nat → Nat) (cA : Nat → ClassId) (hd : dM h ad) (fv : Nat → Int32) (wd : Int64) (ar : Nat → Nat → Int32) (hF_fv : rF fv) (hA_ar : rA ar) (nn : Int32) (h_nn : 0 ≤ nn.toInt ∧ nn.toInt ≤ 40) (hk : (fv 89).toInt + nn.toInt ≤ 441) : Met l yX12_putBack (.code yX12_putBack cX12_putBack 4 none :: lw_good) ({ frames := 2, cells := 0, slots := 0, locals := 40 }) (va_Pc [.ref h, .ref (ad 72), .int nn] (prM dC dI h ad cA fv wd ar sz)) (va_Qv (fun (u : mS) => rF u.1 ∧ rA u.2.2 ∧ fM [89] fv u.1 ∧ fA [72] ar u.2.2 ∧ ((u.1 89).toInt = (fv 89).toInt + nn.toInt) ∧ True) (enM dC dI h ad cA) (aM h ad sz)) 0 0 (aM h ad sz) := by
  refine Met.ofW (cc := cX12_putBack) (maxL := 4) (ret := none) (by decide) rfl ?_
  intro p e s m args below meth c s₁ B hml hv
  obtain ⟨rfl, hsz, hP, hK⟩ := hv
  have hx := B.exec
  have hb := B.bytes
  have hr := B.returns
  have hts := atoms_spec (ws := (.code yX12_putBack cX12_putBack 4 none :: lw_good)) B.pre
  have htg : ∀ w ∈ lw_good, w.before _ s = true := fun w hw => hts w (List.mem_cons_of_mem _ hw)
  have hown : s.vm.findClass RX12 = some m.cls := findClass_of_methodNamed B.named
  have hlocks := B.notSynchronized
  subst hsz
  have hS : va_S (aM h ad s.heap.size) s.heap s.heap [] := va_S.rf
  have hl := lv_entry ([.ref h, .ref (ad 72), .int nn]) (n := 4) (Nat.le_of_ble_eq_true rfl)
  rw [lg_entry_eq]
  generalize (lg_sl ([.ref h, .ref (ad 72), .int nn]) ++ List.replicate (4 - (lg_sl ([.ref h, .ref (ad 72), .int nn])).length) Slot.unset).toArray = ls at hl ⊢
  have hl : lv_has ls 4 [(0, .ref h), (1, .ref (ad 72)), (2, .int nn)] := hl
  refine lv_iconst (v := 0) hx hb dX12_putBack_0 (by decide) ?_
  refine lv_istore_n (lv' := [(3, .int 0), (0, .ref h), (1, .ref (ad 72)), (2, .int nn)]) hx hb dX12_putBack_1 rfl hl (by decide) rfl (fun ls hl => ?_)
  refine my_cut (P := fun R9 a9 Q9 => ∀ (n_8 : Nat) (x_1 : Int32) (fv_2 : Nat → Int32) (ar_4 : Nat → Nat → Int32) (H : Heap) (locs : List Loc) (ls : Array Slot), 40 - x_1.toInt < (n_8 : Int) → (0 ≤ x_1.toInt ∧ x_1.toInt ≤ 40) → rF fv_2 → fM [89] fv fv_2 → rA ar_4 → fA [72] ar ar_4 → ((fv_2 89).toInt = (fv 89).toInt + x_1.toInt) → (x_1.toInt ≤ nn.toInt) → va_P (dC, dI) vwCl (wsM h ad cA fv_2 wd ar_4) H → va_S (aM h ad s.heap.size) s.heap H locs → lv_has ls 4 [(0, .ref h), (1, .ref (ad 72)), (2, .int nn), (3, .int x_1)] → W p l e R9 s m a9 below meth c H locs 0 0 Q9 (F0 m 2 ls [])) ?_ (fun hj_10 => ?_)
  · intro n_8
    induction n_8 with
    | zero => intro x_1 fv_2 ar_4 H locs ls fu_9 i_x_1 hF_fv_2 fr_3 hA_ar_4 fa_5 q_6 q_7; exfalso; omega
    | succ n_8 ih_8 =>
      intro x_1 fv_2 ar_4 H locs ls fu_9 i_x_1 hF_fv_2 fr_3 hA_ar_4 fa_5 q_6 q_7 hP hS hl
      refine lv_iload_n hx hb dX12_putBack_2 rfl (lv_at hl 3 rfl) ?_
      refine lv_iload_n hx hb dX12_putBack_3 rfl (lv_at hl 2 rfl) ?_
      refine lv_icmp_ge (tgt := 35) hx hb dX12_putBack_4 (by decide) (fun c_11 => ?_) (fun c_11 => ?_)
      · skip
        have k_12 := Int32.le_iff_toInt_le.mp c_11
        have z_13 : 0 ≤ (fv_2 89).toInt ∧ (fv_2 89).toInt ≤ 441 := hF_fv_2 89
        exact W.vret hx hb hr (fun t ht hW => ⟨⟨(fv_2, wd, ar_4), rfl, ⟨hF_fv_2, hA_ar_4, (fM_call (fM_rf [89] _) fr_3 (by decide)), (fA_call (fA_rf [72] _) fa_5 (by decide)), (show (fv_2 89).toInt = (fv 89).toInt + nn.toInt from by omega), trivial⟩, ⟨by rw [ht]; exact hP, va_K.moved hW.alike hK⟩⟩, hS.F ht⟩) hS.2.2 dX12_putBack_35
      · skip
        have i_14 : 0 ≤ x_1.toInt ∧ x_1.toInt ≤ 39 := iv_lt1 i_x_1 h_nn (Int32.not_le.mp c_11)
        have i_15 : 1 ≤ nn.toInt ∧ nn.toInt ≤ 40 := iv_lt2 i_x_1 h_nn (Int32.not_le.mp c_11)
        have k_16 := Int32.lt_iff_toInt_lt.mp (Int32.not_le.mp c_11)
        refine lv_aload_n hx hb dX12_putBack_7 rfl (lv_at hl 1 rfl) ?_
        refine lv_iload_n hx hb dX12_putBack_8 rfl (lv_at hl 3 rfl) ?_
        refine lv_aload_n hx hb dX12_putBack_9 rfl (lv_at hl 0 rfl) ?_
        refine gM_88 hx hb htg hown hK hP dX12_putBack_10 ?_
        refine lv_aload_n hx hb dX12_putBack_13 rfl (lv_at hl 0 rfl) ?_
        refine gM_89 hx hb htg hown hK hP dX12_putBack_14 ?_
        have i_17 : 0 ≤ (fv_2 89).toInt ∧ (fv_2 89).toInt ≤ 441 := hF_fv_2 89
        refine lM_88 hx hb hK hP (vp_in_iff.mpr (by omega)) dX12_putBack_17 (fun v_18 ev_18 => ?_)
        refine sM_72 hx hb hK hP hS hd (iv_in i_14 (by decide) (by decide)) dX12_putBack_18 (fun H locs ar_19 ear_19 hP hS => ?_)
        have hA_ar_19 : rA ar_19 := rA_put hA_ar_4 ear_19 (iv_any _)
        refine lv_aload_n hx hb dX12_putBack_19 rfl (lv_at hl 0 rfl) ?_
        refine lv_dup hx hb dX12_putBack_20 rfl ?_
        refine gM_89 hx hb htg hown hK hP dX12_putBack_21 ?_
        refine lv_iconst (v := 1) hx hb dX12_putBack_24 (by decide) ?_
        refine lv_iadd hx hb dX12_putBack_25 ?_
        refine lv_topi (fun v_20 ev_20 => ?_)
        have t_21 : v_20.toInt = (fv_2 89).toInt + 1 ∧ 1 ≤ v_20.toInt ∧ v_20.toInt ≤ 442 := iv_addc ev_20 i_17 (by decide) (by decide) (by decide)
        have i_23 : 0 ≤ v_20.toInt ∧ v_20.toInt ≤ 441 := (by omega)
        refine pM_89 hx hb htg hown hK hP hS hd dX12_putBack_26 (fun H locs fv_24 efv_24 hP hS => ?_)
        have hF_fv_24 : rF fv_24 := rF_put hF_fv_2 efv_24 i_23
        obtain ⟨v_25, ev_25⟩ : ∃ z : Int32, z = x_1 + 1 := ⟨_, rfl⟩
        refine lv_iinc (v := v_25) (lv' := [(3, .int v_25), (0, .ref h), (1, .ref (ad 72)), (2, .int nn)]) hx hb dX12_putBack_29 hl (k := 3) rfl (by rw [ev_25]; rfl) (by decide) rfl (fun ls hl => ?_)
        have t_26 : v_25.toInt = x_1.toInt + 1 ∧ 1 ≤ v_25.toInt ∧ v_25.toInt ≤ 40 := iv_addc ev_25 i_14 (by decide) (by decide) (by decide)
        refine lv_goto (tgt := 2) hx hb dX12_putBack_32 (by decide) ?_
        have z_28 : (fv_24 89).toInt = v_20.toInt := congrArg Int32.toInt ((congrFun efv_24 89))
        have z_29 : 0 ≤ (fv_24 89).toInt ∧ (fv_24 89).toInt ≤ 441 := hF_fv_24 89
        exact ih_8 v_25 fv_24 ar_19 _ _ ls (by omega) (iv_w t_26.2 (by decide) (by decide)) hF_fv_24 (fM_put (fM_call (fM_rf [89] _) fr_3 (by decide)) efv_24 (by decide)) hA_ar_19 (fA_put (fA_call (fA_rf [72] _) fa_5 (by decide)) ear_19 (by decide)) (by omega) (by omega) hP hS (lv_sub hl [1, 2, 3, 0] rfl)
  · skip
    have z_30 : (0 : Int32).toInt = 0 := by decide
    have z_31 : 0 ≤ (fv 89).toInt ∧ (fv 89).toInt ≤ 441 := hF_fv 89
    exact hj_10 41 0 fv ar _ _ ls (by first | decide | omega) (iv_w (⟨by decide, by decide⟩ : (0 : Int) ≤ (0 : Int32).toInt ∧ (0 : Int32).toInt ≤ 0) (by decide) (by decide)) hF_fv (fM_rf [89] _) hA_ar (fA_rf [72] _) (by omega) (by omega) hP hS (lv_sub hl [1, 2, 3, 0] rfl)
set_option maxHeartbeats 4000000 in
set_option maxRecDepth 100000 in
theorem m_keep_73 (l : Launch) (dC : Nat → ClassId) (dI : Nat → Nat → Nat) (sz h : Nat) (ad : Nat → Nat) (cA : Nat → ClassId) (hd : dM h ad) (fv : Nat → Int32) (wd : Int64) (ar : Nat → Nat → Int32) (hF_fv : rF fv) (hA_ar : rA ar) (nn : Int32) (h_nn : 0 ≤ nn.toInt ∧ nn.toInt ≤ 40) (hk : (fv 89).toInt + nn.toInt ≤ 441) : Met l yX12_keep (.code yX12_keep cX12_keep 4 none :: lw_good) ({ frames := 2, cells := 0, slots := 0, locals := 40 }) (va_Pc [.ref h, .ref (ad 73), .int nn] (prM dC dI h ad cA fv wd ar sz)) (va_Qv (fun (u : mS) => rF u.1 ∧ rA u.2.2 ∧ fM [89] fv u.1 ∧ fA [88] ar u.2.2 ∧ ((u.1 89).toInt = (fv 89).toInt + nn.toInt) ∧ True) (enM dC dI h ad cA) (aM h ad sz)) 0 0 (aM h ad sz) := by
  refine Met.ofW (cc := cX12_keep) (maxL := 4) (ret := none) (by decide) rfl ?_
  intro p e s m args below meth c s₁ B hml hv
  obtain ⟨rfl, hsz, hP, hK⟩ := hv
  have hx := B.exec
  have hb := B.bytes
  have hr := B.returns
  have hts := atoms_spec (ws := (.code yX12_keep cX12_keep 4 none :: lw_good)) B.pre
  have htg : ∀ w ∈ lw_good, w.before _ s = true := fun w hw => hts w (List.mem_cons_of_mem _ hw)
  have hown : s.vm.findClass RX12 = some m.cls := findClass_of_methodNamed B.named
  have hlocks := B.notSynchronized
  subst hsz
  have hS : va_S (aM h ad s.heap.size) s.heap s.heap [] := va_S.rf
  have hl := lv_entry ([.ref h, .ref (ad 73), .int nn]) (n := 4) (Nat.le_of_ble_eq_true rfl)
  rw [lg_entry_eq]
  generalize (lg_sl ([.ref h, .ref (ad 73), .int nn]) ++ List.replicate (4 - (lg_sl ([.ref h, .ref (ad 73), .int nn])).length) Slot.unset).toArray = ls at hl ⊢
  have hl : lv_has ls 4 [(0, .ref h), (1, .ref (ad 73)), (2, .int nn)] := hl
  refine lv_iconst (v := 0) hx hb dX12_keep_0 (by decide) ?_
  refine lv_istore_n (lv' := [(3, .int 0), (0, .ref h), (1, .ref (ad 73)), (2, .int nn)]) hx hb dX12_keep_1 rfl hl (by decide) rfl (fun ls hl => ?_)
  refine my_cut (P := fun R9 a9 Q9 => ∀ (n_8 : Nat) (x_1 : Int32) (fv_2 : Nat → Int32) (ar_4 : Nat → Nat → Int32) (H : Heap) (locs : List Loc) (ls : Array Slot), 40 - x_1.toInt < (n_8 : Int) → (0 ≤ x_1.toInt ∧ x_1.toInt ≤ 40) → rF fv_2 → fM [89] fv fv_2 → rA ar_4 → fA [88] ar ar_4 → ((fv_2 89).toInt = (fv 89).toInt + x_1.toInt) → (x_1.toInt ≤ nn.toInt) → va_P (dC, dI) vwCl (wsM h ad cA fv_2 wd ar_4) H → va_S (aM h ad s.heap.size) s.heap H locs → lv_has ls 4 [(0, .ref h), (1, .ref (ad 73)), (2, .int nn), (3, .int x_1)] → W p l e R9 s m a9 below meth c H locs 0 0 Q9 (F0 m 2 ls [])) ?_ (fun hj_10 => ?_)
  · intro n_8
    induction n_8 with
    | zero => intro x_1 fv_2 ar_4 H locs ls fu_9 i_x_1 hF_fv_2 fr_3 hA_ar_4 fa_5 q_6 q_7; exfalso; omega
    | succ n_8 ih_8 =>
      intro x_1 fv_2 ar_4 H locs ls fu_9 i_x_1 hF_fv_2 fr_3 hA_ar_4 fa_5 q_6 q_7 hP hS hl
      refine lv_iload_n hx hb dX12_keep_2 rfl (lv_at hl 3 rfl) ?_
      refine lv_iload_n hx hb dX12_keep_3 rfl (lv_at hl 2 rfl) ?_
      refine lv_icmp_ge (tgt := 35) hx hb dX12_keep_4 (by decide) (fun c_11 => ?_) (fun c_11 => ?_)
      · skip
        have k_12 := Int32.le_iff_toInt_le.mp c_11
        have z_13 : 0 ≤ (fv_2 89).toInt ∧ (fv_2 89).toInt ≤ 441 := hF_fv_2 89
        exact W.vret hx hb hr (fun t ht hW => ⟨⟨(fv_2, wd, ar_4), rfl, ⟨hF_fv_2, hA_ar_4, (fM_call (fM_rf [89] _) fr_3 (by decide)), (fA_call (fA_rf [88] _) fa_5 (by decide)), (show (fv_2 89).toInt = (fv 89).toInt + nn.toInt from by omega), trivial⟩, ⟨by rw [ht]; exact hP, va_K.moved hW.alike hK⟩⟩, hS.F ht⟩) hS.2.2 dX12_keep_35
      · skip
        have i_14 : 0 ≤ x_1.toInt ∧ x_1.toInt ≤ 39 := iv_lt1 i_x_1 h_nn (Int32.not_le.mp c_11)
        have i_15 : 1 ≤ nn.toInt ∧ nn.toInt ≤ 40 := iv_lt2 i_x_1 h_nn (Int32.not_le.mp c_11)
        have k_16 := Int32.lt_iff_toInt_lt.mp (Int32.not_le.mp c_11)
        refine lv_aload_n hx hb dX12_keep_7 rfl (lv_at hl 0 rfl) ?_
        refine gM_88 hx hb htg hown hK hP dX12_keep_8 ?_
        refine lv_aload_n hx hb dX12_keep_11 rfl (lv_at hl 0 rfl) ?_
        refine gM_89 hx hb htg hown hK hP dX12_keep_12 ?_
        have i_17 : 0 ≤ (fv_2 89).toInt ∧ (fv_2 89).toInt ≤ 441 := hF_fv_2 89
        refine lv_aload_n hx hb dX12_keep_15 rfl (lv_at hl 1 rfl) ?_
        refine lv_iload_n hx hb dX12_keep_16 rfl (lv_at hl 3 rfl) ?_
        refine lM_73 hx hb hK hP (iv_in i_14 (by decide) (by decide)) dX12_keep_17 (fun v_18 ev_18 => ?_)
        refine sM_88 hx hb hK hP hS hd (vp_in_iff.mpr (by omega)) dX12_keep_18 (fun H locs ar_19 ear_19 hP hS => ?_)
        have hA_ar_19 : rA ar_19 := rA_put hA_ar_4 ear_19 (iv_any _)
        refine lv_aload_n hx hb dX12_keep_19 rfl (lv_at hl 0 rfl) ?_
        refine lv_dup hx hb dX12_keep_20 rfl ?_
        refine gM_89 hx hb htg hown hK hP dX12_keep_21 ?_
        refine lv_iconst (v := 1) hx hb dX12_keep_24 (by decide) ?_
        refine lv_iadd hx hb dX12_keep_25 ?_
        refine lv_topi (fun v_20 ev_20 => ?_)
        have t_21 : v_20.toInt = (fv_2 89).toInt + 1 ∧ 1 ≤ v_20.toInt ∧ v_20.toInt ≤ 442 := iv_addc ev_20 i_17 (by decide) (by decide) (by decide)
        have i_23 : 0 ≤ v_20.toInt ∧ v_20.toInt ≤ 441 := (by omega)
        refine pM_89 hx hb htg hown hK hP hS hd dX12_keep_26 (fun H locs fv_24 efv_24 hP hS => ?_)
        have hF_fv_24 : rF fv_24 := rF_put hF_fv_2 efv_24 i_23
        obtain ⟨v_25, ev_25⟩ : ∃ z : Int32, z = x_1 + 1 := ⟨_, rfl⟩
        refine lv_iinc (v := v_25) (lv' := [(3, .int v_25), (0, .ref h), (1, .ref (ad 73)), (2, .int nn)]) hx hb dX12_keep_29 hl (k := 3) rfl (by rw [ev_25]; rfl) (by decide) rfl (fun ls hl => ?_)
        have t_26 : v_25.toInt = x_1.toInt + 1 ∧ 1 ≤ v_25.toInt ∧ v_25.toInt ≤ 40 := iv_addc ev_25 i_14 (by decide) (by decide) (by decide)
        refine lv_goto (tgt := 2) hx hb dX12_keep_32 (by decide) ?_
        have z_28 : (fv_24 89).toInt = v_20.toInt := congrArg Int32.toInt ((congrFun efv_24 89))
        have z_29 : 0 ≤ (fv_24 89).toInt ∧ (fv_24 89).toInt ≤ 441 := hF_fv_24 89
        exact ih_8 v_25 fv_24 ar_19 _ _ ls (by omega) (iv_w t_26.2 (by decide) (by decide)) hF_fv_24 (fM_put (fM_call (fM_rf [89] _) fr_3 (by decide)) efv_24 (by decide)) hA_ar_19 (fA_put (fA_call (fA_rf [88] _) fa_5 (by decide)) ear_19 (by decide)) (by omega) (by omega) hP hS (lv_sub hl [1, 2, 3, 0] rfl)
  · skip
    have z_30 : (0 : Int32).toInt = 0 := by decide
    have z_31 : 0 ≤ (fv 89).toInt ∧ (fv 89).toInt ≤ 441 := hF_fv 89
    exact hj_10 41 0 fv ar _ _ ls (by first | decide | omega) (iv_w (⟨by decide, by decide⟩ : (0 : Int) ≤ (0 : Int32).toInt ∧ (0 : Int32).toInt ≤ 0) (by decide) (by decide)) hF_fv (fM_rf [89] _) hA_ar (fA_rf [88] _) (by omega) (by omega) hP hS (lv_sub hl [1, 2, 3, 0] rfl)
set_option maxHeartbeats 4000000 in
set_option maxRecDepth 100000 in
theorem m_putBack_73 (l : Launch) (dC : Nat → ClassId) (dI : Nat → Nat → Nat) (sz h : Nat) (ad : Nat → Nat) (cA : Nat → ClassId) (hd : dM h ad) (fv : Nat → Int32) (wd : Int64) (ar : Nat → Nat → Int32) (hF_fv : rF fv) (hA_ar : rA ar) (nn : Int32) (h_nn : 0 ≤ nn.toInt ∧ nn.toInt ≤ 40) (hk : (fv 89).toInt + nn.toInt ≤ 441) : Met l yX12_putBack (.code yX12_putBack cX12_putBack 4 none :: lw_good) ({ frames := 2, cells := 0, slots := 0, locals := 40 }) (va_Pc [.ref h, .ref (ad 73), .int nn] (prM dC dI h ad cA fv wd ar sz)) (va_Qv (fun (u : mS) => rF u.1 ∧ rA u.2.2 ∧ fM [89] fv u.1 ∧ fA [73] ar u.2.2 ∧ ((u.1 89).toInt = (fv 89).toInt + nn.toInt) ∧ True) (enM dC dI h ad cA) (aM h ad sz)) 0 0 (aM h ad sz) := by
  refine Met.ofW (cc := cX12_putBack) (maxL := 4) (ret := none) (by decide) rfl ?_
  intro p e s m args below meth c s₁ B hml hv
  obtain ⟨rfl, hsz, hP, hK⟩ := hv
  have hx := B.exec
  have hb := B.bytes
  have hr := B.returns
  have hts := atoms_spec (ws := (.code yX12_putBack cX12_putBack 4 none :: lw_good)) B.pre
  have htg : ∀ w ∈ lw_good, w.before _ s = true := fun w hw => hts w (List.mem_cons_of_mem _ hw)
  have hown : s.vm.findClass RX12 = some m.cls := findClass_of_methodNamed B.named
  have hlocks := B.notSynchronized
  subst hsz
  have hS : va_S (aM h ad s.heap.size) s.heap s.heap [] := va_S.rf
  have hl := lv_entry ([.ref h, .ref (ad 73), .int nn]) (n := 4) (Nat.le_of_ble_eq_true rfl)
  rw [lg_entry_eq]
  generalize (lg_sl ([.ref h, .ref (ad 73), .int nn]) ++ List.replicate (4 - (lg_sl ([.ref h, .ref (ad 73), .int nn])).length) Slot.unset).toArray = ls at hl ⊢
  have hl : lv_has ls 4 [(0, .ref h), (1, .ref (ad 73)), (2, .int nn)] := hl
  refine lv_iconst (v := 0) hx hb dX12_putBack_0 (by decide) ?_
  refine lv_istore_n (lv' := [(3, .int 0), (0, .ref h), (1, .ref (ad 73)), (2, .int nn)]) hx hb dX12_putBack_1 rfl hl (by decide) rfl (fun ls hl => ?_)
  refine my_cut (P := fun R9 a9 Q9 => ∀ (n_8 : Nat) (x_1 : Int32) (fv_2 : Nat → Int32) (ar_4 : Nat → Nat → Int32) (H : Heap) (locs : List Loc) (ls : Array Slot), 40 - x_1.toInt < (n_8 : Int) → (0 ≤ x_1.toInt ∧ x_1.toInt ≤ 40) → rF fv_2 → fM [89] fv fv_2 → rA ar_4 → fA [73] ar ar_4 → ((fv_2 89).toInt = (fv 89).toInt + x_1.toInt) → (x_1.toInt ≤ nn.toInt) → va_P (dC, dI) vwCl (wsM h ad cA fv_2 wd ar_4) H → va_S (aM h ad s.heap.size) s.heap H locs → lv_has ls 4 [(0, .ref h), (1, .ref (ad 73)), (2, .int nn), (3, .int x_1)] → W p l e R9 s m a9 below meth c H locs 0 0 Q9 (F0 m 2 ls [])) ?_ (fun hj_10 => ?_)
  · intro n_8
    induction n_8 with
    | zero => intro x_1 fv_2 ar_4 H locs ls fu_9 i_x_1 hF_fv_2 fr_3 hA_ar_4 fa_5 q_6 q_7; exfalso; omega
    | succ n_8 ih_8 =>
      intro x_1 fv_2 ar_4 H locs ls fu_9 i_x_1 hF_fv_2 fr_3 hA_ar_4 fa_5 q_6 q_7 hP hS hl
      refine lv_iload_n hx hb dX12_putBack_2 rfl (lv_at hl 3 rfl) ?_
      refine lv_iload_n hx hb dX12_putBack_3 rfl (lv_at hl 2 rfl) ?_
      refine lv_icmp_ge (tgt := 35) hx hb dX12_putBack_4 (by decide) (fun c_11 => ?_) (fun c_11 => ?_)
      · skip
        have k_12 := Int32.le_iff_toInt_le.mp c_11
        have z_13 : 0 ≤ (fv_2 89).toInt ∧ (fv_2 89).toInt ≤ 441 := hF_fv_2 89
        exact W.vret hx hb hr (fun t ht hW => ⟨⟨(fv_2, wd, ar_4), rfl, ⟨hF_fv_2, hA_ar_4, (fM_call (fM_rf [89] _) fr_3 (by decide)), (fA_call (fA_rf [73] _) fa_5 (by decide)), (show (fv_2 89).toInt = (fv 89).toInt + nn.toInt from by omega), trivial⟩, ⟨by rw [ht]; exact hP, va_K.moved hW.alike hK⟩⟩, hS.F ht⟩) hS.2.2 dX12_putBack_35
      · skip
        have i_14 : 0 ≤ x_1.toInt ∧ x_1.toInt ≤ 39 := iv_lt1 i_x_1 h_nn (Int32.not_le.mp c_11)
        have i_15 : 1 ≤ nn.toInt ∧ nn.toInt ≤ 40 := iv_lt2 i_x_1 h_nn (Int32.not_le.mp c_11)
        have k_16 := Int32.lt_iff_toInt_lt.mp (Int32.not_le.mp c_11)
        refine lv_aload_n hx hb dX12_putBack_7 rfl (lv_at hl 1 rfl) ?_
        refine lv_iload_n hx hb dX12_putBack_8 rfl (lv_at hl 3 rfl) ?_
        refine lv_aload_n hx hb dX12_putBack_9 rfl (lv_at hl 0 rfl) ?_
        refine gM_88 hx hb htg hown hK hP dX12_putBack_10 ?_
        refine lv_aload_n hx hb dX12_putBack_13 rfl (lv_at hl 0 rfl) ?_
        refine gM_89 hx hb htg hown hK hP dX12_putBack_14 ?_
        have i_17 : 0 ≤ (fv_2 89).toInt ∧ (fv_2 89).toInt ≤ 441 := hF_fv_2 89
        refine lM_88 hx hb hK hP (vp_in_iff.mpr (by omega)) dX12_putBack_17 (fun v_18 ev_18 => ?_)
        refine sM_73 hx hb hK hP hS hd (iv_in i_14 (by decide) (by decide)) dX12_putBack_18 (fun H locs ar_19 ear_19 hP hS => ?_)
        have hA_ar_19 : rA ar_19 := rA_put hA_ar_4 ear_19 (iv_any _)
        refine lv_aload_n hx hb dX12_putBack_19 rfl (lv_at hl 0 rfl) ?_
        refine lv_dup hx hb dX12_putBack_20 rfl ?_
        refine gM_89 hx hb htg hown hK hP dX12_putBack_21 ?_
        refine lv_iconst (v := 1) hx hb dX12_putBack_24 (by decide) ?_
        refine lv_iadd hx hb dX12_putBack_25 ?_
        refine lv_topi (fun v_20 ev_20 => ?_)
        have t_21 : v_20.toInt = (fv_2 89).toInt + 1 ∧ 1 ≤ v_20.toInt ∧ v_20.toInt ≤ 442 := iv_addc ev_20 i_17 (by decide) (by decide) (by decide)
        have i_23 : 0 ≤ v_20.toInt ∧ v_20.toInt ≤ 441 := (by omega)
        refine pM_89 hx hb htg hown hK hP hS hd dX12_putBack_26 (fun H locs fv_24 efv_24 hP hS => ?_)
        have hF_fv_24 : rF fv_24 := rF_put hF_fv_2 efv_24 i_23
        obtain ⟨v_25, ev_25⟩ : ∃ z : Int32, z = x_1 + 1 := ⟨_, rfl⟩
        refine lv_iinc (v := v_25) (lv' := [(3, .int v_25), (0, .ref h), (1, .ref (ad 73)), (2, .int nn)]) hx hb dX12_putBack_29 hl (k := 3) rfl (by rw [ev_25]; rfl) (by decide) rfl (fun ls hl => ?_)
        have t_26 : v_25.toInt = x_1.toInt + 1 ∧ 1 ≤ v_25.toInt ∧ v_25.toInt ≤ 40 := iv_addc ev_25 i_14 (by decide) (by decide) (by decide)
        refine lv_goto (tgt := 2) hx hb dX12_putBack_32 (by decide) ?_
        have z_28 : (fv_24 89).toInt = v_20.toInt := congrArg Int32.toInt ((congrFun efv_24 89))
        have z_29 : 0 ≤ (fv_24 89).toInt ∧ (fv_24 89).toInt ≤ 441 := hF_fv_24 89
        exact ih_8 v_25 fv_24 ar_19 _ _ ls (by omega) (iv_w t_26.2 (by decide) (by decide)) hF_fv_24 (fM_put (fM_call (fM_rf [89] _) fr_3 (by decide)) efv_24 (by decide)) hA_ar_19 (fA_put (fA_call (fA_rf [73] _) fa_5 (by decide)) ear_19 (by decide)) (by omega) (by omega) hP hS (lv_sub hl [1, 2, 3, 0] rfl)
  · skip
    have z_30 : (0 : Int32).toInt = 0 := by decide
    have z_31 : 0 ≤ (fv 89).toInt ∧ (fv 89).toInt ≤ 441 := hF_fv 89
    exact hj_10 41 0 fv ar _ _ ls (by first | decide | omega) (iv_w (⟨by decide, by decide⟩ : (0 : Int) ≤ (0 : Int32).toInt ∧ (0 : Int32).toInt ≤ 0) (by decide) (by decide)) hF_fv (fM_rf [89] _) hA_ar (fA_rf [73] _) (by omega) (by omega) hP hS (lv_sub hl [1, 2, 3, 0] rfl)
set_option maxHeartbeats 4000000 in
set_option maxRecDepth 100000 in
theorem m_keep_74 (l : Launch) (dC : Nat → ClassId) (dI : Nat → Nat → Nat) (sz h : Nat) (ad : Nat → Nat) (cA : Nat → ClassId) (hd : dM h ad) (fv : Nat → Int32) (wd : Int64) (ar : Nat → Nat → Int32) (hF_fv : rF fv) (hA_ar : rA ar) (nn : Int32) (h_nn : 0 ≤ nn.toInt ∧ nn.toInt ≤ 40) (hk : (fv 89).toInt + nn.toInt ≤ 441) : Met l yX12_keep (.code yX12_keep cX12_keep 4 none :: lw_good) ({ frames := 2, cells := 0, slots := 0, locals := 40 }) (va_Pc [.ref h, .ref (ad 74), .int nn] (prM dC dI h ad cA fv wd ar sz)) (va_Qv (fun (u : mS) => rF u.1 ∧ rA u.2.2 ∧ fM [89] fv u.1 ∧ fA [88] ar u.2.2 ∧ ((u.1 89).toInt = (fv 89).toInt + nn.toInt) ∧ True) (enM dC dI h ad cA) (aM h ad sz)) 0 0 (aM h ad sz) := by
  refine Met.ofW (cc := cX12_keep) (maxL := 4) (ret := none) (by decide) rfl ?_
  intro p e s m args below meth c s₁ B hml hv
  obtain ⟨rfl, hsz, hP, hK⟩ := hv
  have hx := B.exec
  have hb := B.bytes
  have hr := B.returns
  have hts := atoms_spec (ws := (.code yX12_keep cX12_keep 4 none :: lw_good)) B.pre
  have htg : ∀ w ∈ lw_good, w.before _ s = true := fun w hw => hts w (List.mem_cons_of_mem _ hw)
  have hown : s.vm.findClass RX12 = some m.cls := findClass_of_methodNamed B.named
  have hlocks := B.notSynchronized
  subst hsz
  have hS : va_S (aM h ad s.heap.size) s.heap s.heap [] := va_S.rf
  have hl := lv_entry ([.ref h, .ref (ad 74), .int nn]) (n := 4) (Nat.le_of_ble_eq_true rfl)
  rw [lg_entry_eq]
  generalize (lg_sl ([.ref h, .ref (ad 74), .int nn]) ++ List.replicate (4 - (lg_sl ([.ref h, .ref (ad 74), .int nn])).length) Slot.unset).toArray = ls at hl ⊢
  have hl : lv_has ls 4 [(0, .ref h), (1, .ref (ad 74)), (2, .int nn)] := hl
  refine lv_iconst (v := 0) hx hb dX12_keep_0 (by decide) ?_
  refine lv_istore_n (lv' := [(3, .int 0), (0, .ref h), (1, .ref (ad 74)), (2, .int nn)]) hx hb dX12_keep_1 rfl hl (by decide) rfl (fun ls hl => ?_)
  refine my_cut (P := fun R9 a9 Q9 => ∀ (n_8 : Nat) (x_1 : Int32) (fv_2 : Nat → Int32) (ar_4 : Nat → Nat → Int32) (H : Heap) (locs : List Loc) (ls : Array Slot), 40 - x_1.toInt < (n_8 : Int) → (0 ≤ x_1.toInt ∧ x_1.toInt ≤ 40) → rF fv_2 → fM [89] fv fv_2 → rA ar_4 → fA [88] ar ar_4 → ((fv_2 89).toInt = (fv 89).toInt + x_1.toInt) → (x_1.toInt ≤ nn.toInt) → va_P (dC, dI) vwCl (wsM h ad cA fv_2 wd ar_4) H → va_S (aM h ad s.heap.size) s.heap H locs → lv_has ls 4 [(0, .ref h), (1, .ref (ad 74)), (2, .int nn), (3, .int x_1)] → W p l e R9 s m a9 below meth c H locs 0 0 Q9 (F0 m 2 ls [])) ?_ (fun hj_10 => ?_)
  · intro n_8
    induction n_8 with
    | zero => intro x_1 fv_2 ar_4 H locs ls fu_9 i_x_1 hF_fv_2 fr_3 hA_ar_4 fa_5 q_6 q_7; exfalso; omega
    | succ n_8 ih_8 =>
      intro x_1 fv_2 ar_4 H locs ls fu_9 i_x_1 hF_fv_2 fr_3 hA_ar_4 fa_5 q_6 q_7 hP hS hl
      refine lv_iload_n hx hb dX12_keep_2 rfl (lv_at hl 3 rfl) ?_
      refine lv_iload_n hx hb dX12_keep_3 rfl (lv_at hl 2 rfl) ?_
      refine lv_icmp_ge (tgt := 35) hx hb dX12_keep_4 (by decide) (fun c_11 => ?_) (fun c_11 => ?_)
      · skip
        have k_12 := Int32.le_iff_toInt_le.mp c_11
        have z_13 : 0 ≤ (fv_2 89).toInt ∧ (fv_2 89).toInt ≤ 441 := hF_fv_2 89
        exact W.vret hx hb hr (fun t ht hW => ⟨⟨(fv_2, wd, ar_4), rfl, ⟨hF_fv_2, hA_ar_4, (fM_call (fM_rf [89] _) fr_3 (by decide)), (fA_call (fA_rf [88] _) fa_5 (by decide)), (show (fv_2 89).toInt = (fv 89).toInt + nn.toInt from by omega), trivial⟩, ⟨by rw [ht]; exact hP, va_K.moved hW.alike hK⟩⟩, hS.F ht⟩) hS.2.2 dX12_keep_35
      · skip
        have i_14 : 0 ≤ x_1.toInt ∧ x_1.toInt ≤ 39 := iv_lt1 i_x_1 h_nn (Int32.not_le.mp c_11)
        have i_15 : 1 ≤ nn.toInt ∧ nn.toInt ≤ 40 := iv_lt2 i_x_1 h_nn (Int32.not_le.mp c_11)
        have k_16 := Int32.lt_iff_toInt_lt.mp (Int32.not_le.mp c_11)
        refine lv_aload_n hx hb dX12_keep_7 rfl (lv_at hl 0 rfl) ?_
        refine gM_88 hx hb htg hown hK hP dX12_keep_8 ?_
        refine lv_aload_n hx hb dX12_keep_11 rfl (lv_at hl 0 rfl) ?_
        refine gM_89 hx hb htg hown hK hP dX12_keep_12 ?_
        have i_17 : 0 ≤ (fv_2 89).toInt ∧ (fv_2 89).toInt ≤ 441 := hF_fv_2 89
        refine lv_aload_n hx hb dX12_keep_15 rfl (lv_at hl 1 rfl) ?_
        refine lv_iload_n hx hb dX12_keep_16 rfl (lv_at hl 3 rfl) ?_
        refine lM_74 hx hb hK hP (iv_in i_14 (by decide) (by decide)) dX12_keep_17 (fun v_18 ev_18 => ?_)
        refine sM_88 hx hb hK hP hS hd (vp_in_iff.mpr (by omega)) dX12_keep_18 (fun H locs ar_19 ear_19 hP hS => ?_)
        have hA_ar_19 : rA ar_19 := rA_put hA_ar_4 ear_19 (iv_any _)
        refine lv_aload_n hx hb dX12_keep_19 rfl (lv_at hl 0 rfl) ?_
        refine lv_dup hx hb dX12_keep_20 rfl ?_
        refine gM_89 hx hb htg hown hK hP dX12_keep_21 ?_
        refine lv_iconst (v := 1) hx hb dX12_keep_24 (by decide) ?_
        refine lv_iadd hx hb dX12_keep_25 ?_
        refine lv_topi (fun v_20 ev_20 => ?_)
        have t_21 : v_20.toInt = (fv_2 89).toInt + 1 ∧ 1 ≤ v_20.toInt ∧ v_20.toInt ≤ 442 := iv_addc ev_20 i_17 (by decide) (by decide) (by decide)
        have i_23 : 0 ≤ v_20.toInt ∧ v_20.toInt ≤ 441 := (by omega)
        refine pM_89 hx hb htg hown hK hP hS hd dX12_keep_26 (fun H locs fv_24 efv_24 hP hS => ?_)
        have hF_fv_24 : rF fv_24 := rF_put hF_fv_2 efv_24 i_23
        obtain ⟨v_25, ev_25⟩ : ∃ z : Int32, z = x_1 + 1 := ⟨_, rfl⟩
        refine lv_iinc (v := v_25) (lv' := [(3, .int v_25), (0, .ref h), (1, .ref (ad 74)), (2, .int nn)]) hx hb dX12_keep_29 hl (k := 3) rfl (by rw [ev_25]; rfl) (by decide) rfl (fun ls hl => ?_)
        have t_26 : v_25.toInt = x_1.toInt + 1 ∧ 1 ≤ v_25.toInt ∧ v_25.toInt ≤ 40 := iv_addc ev_25 i_14 (by decide) (by decide) (by decide)
        refine lv_goto (tgt := 2) hx hb dX12_keep_32 (by decide) ?_
        have z_28 : (fv_24 89).toInt = v_20.toInt := congrArg Int32.toInt ((congrFun efv_24 89))
        have z_29 : 0 ≤ (fv_24 89).toInt ∧ (fv_24 89).toInt ≤ 441 := hF_fv_24 89
        exact ih_8 v_25 fv_24 ar_19 _ _ ls (by omega) (iv_w t_26.2 (by decide) (by decide)) hF_fv_24 (fM_put (fM_call (fM_rf [89] _) fr_3 (by decide)) efv_24 (by decide)) hA_ar_19 (fA_put (fA_call (fA_rf [88] _) fa_5 (by decide)) ear_19 (by decide)) (by omega) (by omega) hP hS (lv_sub hl [1, 2, 3, 0] rfl)
  · skip
    have z_30 : (0 : Int32).toInt = 0 := by decide
    have z_31 : 0 ≤ (fv 89).toInt ∧ (fv 89).toInt ≤ 441 := hF_fv 89
    exact hj_10 41 0 fv ar _ _ ls (by first | decide | omega) (iv_w (⟨by decide, by decide⟩ : (0 : Int) ≤ (0 : Int32).toInt ∧ (0 : Int32).toInt ≤ 0) (by decide) (by decide)) hF_fv (fM_rf [89] _) hA_ar (fA_rf [88] _) (by omega) (by omega) hP hS (lv_sub hl [1, 2, 3, 0] rfl)
set_option maxHeartbeats 4000000 in
set_option maxRecDepth 100000 in
theorem m_putBack_74 (l : Launch) (dC : Nat → ClassId) (dI : Nat → Nat → Nat) (sz h : Nat) (ad : Nat → Nat) (cA : Nat → ClassId) (hd : dM h ad) (fv : Nat → Int32) (wd : Int64) (ar : Nat → Nat → Int32) (hF_fv : rF fv) (hA_ar : rA ar) (nn : Int32) (h_nn : 0 ≤ nn.toInt ∧ nn.toInt ≤ 40) (hk : (fv 89).toInt + nn.toInt ≤ 441) : Met l yX12_putBack (.code yX12_putBack cX12_putBack 4 none :: lw_good) ({ frames := 2, cells := 0, slots := 0, locals := 40 }) (va_Pc [.ref h, .ref (ad 74), .int nn] (prM dC dI h ad cA fv wd ar sz)) (va_Qv (fun (u : mS) => rF u.1 ∧ rA u.2.2 ∧ fM [89] fv u.1 ∧ fA [74] ar u.2.2 ∧ ((u.1 89).toInt = (fv 89).toInt + nn.toInt) ∧ True) (enM dC dI h ad cA) (aM h ad sz)) 0 0 (aM h ad sz) := by
  refine Met.ofW (cc := cX12_putBack) (maxL := 4) (ret := none) (by decide) rfl ?_
  intro p e s m args below meth c s₁ B hml hv
  obtain ⟨rfl, hsz, hP, hK⟩ := hv
  have hx := B.exec
  have hb := B.bytes
  have hr := B.returns
  have hts := atoms_spec (ws := (.code yX12_putBack cX12_putBack 4 none :: lw_good)) B.pre
  have htg : ∀ w ∈ lw_good, w.before _ s = true := fun w hw => hts w (List.mem_cons_of_mem _ hw)
  have hown : s.vm.findClass RX12 = some m.cls := findClass_of_methodNamed B.named
  have hlocks := B.notSynchronized
  subst hsz
  have hS : va_S (aM h ad s.heap.size) s.heap s.heap [] := va_S.rf
  have hl := lv_entry ([.ref h, .ref (ad 74), .int nn]) (n := 4) (Nat.le_of_ble_eq_true rfl)
  rw [lg_entry_eq]
  generalize (lg_sl ([.ref h, .ref (ad 74), .int nn]) ++ List.replicate (4 - (lg_sl ([.ref h, .ref (ad 74), .int nn])).length) Slot.unset).toArray = ls at hl ⊢
  have hl : lv_has ls 4 [(0, .ref h), (1, .ref (ad 74)), (2, .int nn)] := hl
  refine lv_iconst (v := 0) hx hb dX12_putBack_0 (by decide) ?_
  refine lv_istore_n (lv' := [(3, .int 0), (0, .ref h), (1, .ref (ad 74)), (2, .int nn)]) hx hb dX12_putBack_1 rfl hl (by decide) rfl (fun ls hl => ?_)
  refine my_cut (P := fun R9 a9 Q9 => ∀ (n_8 : Nat) (x_1 : Int32) (fv_2 : Nat → Int32) (ar_4 : Nat → Nat → Int32) (H : Heap) (locs : List Loc) (ls : Array Slot), 40 - x_1.toInt < (n_8 : Int) → (0 ≤ x_1.toInt ∧ x_1.toInt ≤ 40) → rF fv_2 → fM [89] fv fv_2 → rA ar_4 → fA [74] ar ar_4 → ((fv_2 89).toInt = (fv 89).toInt + x_1.toInt) → (x_1.toInt ≤ nn.toInt) → va_P (dC, dI) vwCl (wsM h ad cA fv_2 wd ar_4) H → va_S (aM h ad s.heap.size) s.heap H locs → lv_has ls 4 [(0, .ref h), (1, .ref (ad 74)), (2, .int nn), (3, .int x_1)] → W p l e R9 s m a9 below meth c H locs 0 0 Q9 (F0 m 2 ls [])) ?_ (fun hj_10 => ?_)
  · intro n_8
    induction n_8 with
    | zero => intro x_1 fv_2 ar_4 H locs ls fu_9 i_x_1 hF_fv_2 fr_3 hA_ar_4 fa_5 q_6 q_7; exfalso; omega
    | succ n_8 ih_8 =>
      intro x_1 fv_2 ar_4 H locs ls fu_9 i_x_1 hF_fv_2 fr_3 hA_ar_4 fa_5 q_6 q_7 hP hS hl
      refine lv_iload_n hx hb dX12_putBack_2 rfl (lv_at hl 3 rfl) ?_
      refine lv_iload_n hx hb dX12_putBack_3 rfl (lv_at hl 2 rfl) ?_
      refine lv_icmp_ge (tgt := 35) hx hb dX12_putBack_4 (by decide) (fun c_11 => ?_) (fun c_11 => ?_)
      · skip
        have k_12 := Int32.le_iff_toInt_le.mp c_11
        have z_13 : 0 ≤ (fv_2 89).toInt ∧ (fv_2 89).toInt ≤ 441 := hF_fv_2 89
        exact W.vret hx hb hr (fun t ht hW => ⟨⟨(fv_2, wd, ar_4), rfl, ⟨hF_fv_2, hA_ar_4, (fM_call (fM_rf [89] _) fr_3 (by decide)), (fA_call (fA_rf [74] _) fa_5 (by decide)), (show (fv_2 89).toInt = (fv 89).toInt + nn.toInt from by omega), trivial⟩, ⟨by rw [ht]; exact hP, va_K.moved hW.alike hK⟩⟩, hS.F ht⟩) hS.2.2 dX12_putBack_35
      · skip
        have i_14 : 0 ≤ x_1.toInt ∧ x_1.toInt ≤ 39 := iv_lt1 i_x_1 h_nn (Int32.not_le.mp c_11)
        have i_15 : 1 ≤ nn.toInt ∧ nn.toInt ≤ 40 := iv_lt2 i_x_1 h_nn (Int32.not_le.mp c_11)
        have k_16 := Int32.lt_iff_toInt_lt.mp (Int32.not_le.mp c_11)
        refine lv_aload_n hx hb dX12_putBack_7 rfl (lv_at hl 1 rfl) ?_
        refine lv_iload_n hx hb dX12_putBack_8 rfl (lv_at hl 3 rfl) ?_
        refine lv_aload_n hx hb dX12_putBack_9 rfl (lv_at hl 0 rfl) ?_
        refine gM_88 hx hb htg hown hK hP dX12_putBack_10 ?_
        refine lv_aload_n hx hb dX12_putBack_13 rfl (lv_at hl 0 rfl) ?_
        refine gM_89 hx hb htg hown hK hP dX12_putBack_14 ?_
        have i_17 : 0 ≤ (fv_2 89).toInt ∧ (fv_2 89).toInt ≤ 441 := hF_fv_2 89
        refine lM_88 hx hb hK hP (vp_in_iff.mpr (by omega)) dX12_putBack_17 (fun v_18 ev_18 => ?_)
        refine sM_74 hx hb hK hP hS hd (iv_in i_14 (by decide) (by decide)) dX12_putBack_18 (fun H locs ar_19 ear_19 hP hS => ?_)
        have hA_ar_19 : rA ar_19 := rA_put hA_ar_4 ear_19 (iv_any _)
        refine lv_aload_n hx hb dX12_putBack_19 rfl (lv_at hl 0 rfl) ?_
        refine lv_dup hx hb dX12_putBack_20 rfl ?_
        refine gM_89 hx hb htg hown hK hP dX12_putBack_21 ?_
        refine lv_iconst (v := 1) hx hb dX12_putBack_24 (by decide) ?_
        refine lv_iadd hx hb dX12_putBack_25 ?_
        refine lv_topi (fun v_20 ev_20 => ?_)
        have t_21 : v_20.toInt = (fv_2 89).toInt + 1 ∧ 1 ≤ v_20.toInt ∧ v_20.toInt ≤ 442 := iv_addc ev_20 i_17 (by decide) (by decide) (by decide)
        have i_23 : 0 ≤ v_20.toInt ∧ v_20.toInt ≤ 441 := (by omega)
        refine pM_89 hx hb htg hown hK hP hS hd dX12_putBack_26 (fun H locs fv_24 efv_24 hP hS => ?_)
        have hF_fv_24 : rF fv_24 := rF_put hF_fv_2 efv_24 i_23
        obtain ⟨v_25, ev_25⟩ : ∃ z : Int32, z = x_1 + 1 := ⟨_, rfl⟩
        refine lv_iinc (v := v_25) (lv' := [(3, .int v_25), (0, .ref h), (1, .ref (ad 74)), (2, .int nn)]) hx hb dX12_putBack_29 hl (k := 3) rfl (by rw [ev_25]; rfl) (by decide) rfl (fun ls hl => ?_)
        have t_26 : v_25.toInt = x_1.toInt + 1 ∧ 1 ≤ v_25.toInt ∧ v_25.toInt ≤ 40 := iv_addc ev_25 i_14 (by decide) (by decide) (by decide)
        refine lv_goto (tgt := 2) hx hb dX12_putBack_32 (by decide) ?_
        have z_28 : (fv_24 89).toInt = v_20.toInt := congrArg Int32.toInt ((congrFun efv_24 89))
        have z_29 : 0 ≤ (fv_24 89).toInt ∧ (fv_24 89).toInt ≤ 441 := hF_fv_24 89
        exact ih_8 v_25 fv_24 ar_19 _ _ ls (by omega) (iv_w t_26.2 (by decide) (by decide)) hF_fv_24 (fM_put (fM_call (fM_rf [89] _) fr_3 (by decide)) efv_24 (by decide)) hA_ar_19 (fA_put (fA_call (fA_rf [74] _) fa_5 (by decide)) ear_19 (by decide)) (by omega) (by omega) hP hS (lv_sub hl [1, 2, 3, 0] rfl)
  · skip
    have z_30 : (0 : Int32).toInt = 0 := by decide
    have z_31 : 0 ≤ (fv 89).toInt ∧ (fv 89).toInt ≤ 441 := hF_fv 89
    exact hj_10 41 0 fv ar _ _ ls (by first | decide | omega) (iv_w (⟨by decide, by decide⟩ : (0 : Int) ≤ (0 : Int32).toInt ∧ (0 : Int32).toInt ≤ 0) (by decide) (by decide)) hF_fv (fM_rf [89] _) hA_ar (fA_rf [74] _) (by omega) (by omega) hP hS (lv_sub hl [1, 2, 3, 0] rfl)
set_option maxHeartbeats 4000000 in
set_option maxRecDepth 100000 in
theorem m_keep_75 (l : Launch) (dC : Nat → ClassId) (dI : Nat → Nat → Nat) (sz h : Nat) (ad : Nat → Nat) (cA : Nat → ClassId) (hd : dM h ad) (fv : Nat → Int32) (wd : Int64) (ar : Nat → Nat → Int32) (hF_fv : rF fv) (hA_ar : rA ar) (nn : Int32) (h_nn : 0 ≤ nn.toInt ∧ nn.toInt ≤ 40) (hk : (fv 89).toInt + nn.toInt ≤ 441) : Met l yX12_keep (.code yX12_keep cX12_keep 4 none :: lw_good) ({ frames := 2, cells := 0, slots := 0, locals := 40 }) (va_Pc [.ref h, .ref (ad 75), .int nn] (prM dC dI h ad cA fv wd ar sz)) (va_Qv (fun (u : mS) => rF u.1 ∧ rA u.2.2 ∧ fM [89] fv u.1 ∧ fA [88] ar u.2.2 ∧ ((u.1 89).toInt = (fv 89).toInt + nn.toInt) ∧ True) (enM dC dI h ad cA) (aM h ad sz)) 0 0 (aM h ad sz) := by
  refine Met.ofW (cc := cX12_keep) (maxL := 4) (ret := none) (by decide) rfl ?_
  intro p e s m args below meth c s₁ B hml hv
  obtain ⟨rfl, hsz, hP, hK⟩ := hv
  have hx := B.exec
  have hb := B.bytes
  have hr := B.returns
  have hts := atoms_spec (ws := (.code yX12_keep cX12_keep 4 none :: lw_good)) B.pre
  have htg : ∀ w ∈ lw_good, w.before _ s = true := fun w hw => hts w (List.mem_cons_of_mem _ hw)
  have hown : s.vm.findClass RX12 = some m.cls := findClass_of_methodNamed B.named
  have hlocks := B.notSynchronized
  subst hsz
  have hS : va_S (aM h ad s.heap.size) s.heap s.heap [] := va_S.rf
  have hl := lv_entry ([.ref h, .ref (ad 75), .int nn]) (n := 4) (Nat.le_of_ble_eq_true rfl)
  rw [lg_entry_eq]
  generalize (lg_sl ([.ref h, .ref (ad 75), .int nn]) ++ List.replicate (4 - (lg_sl ([.ref h, .ref (ad 75), .int nn])).length) Slot.unset).toArray = ls at hl ⊢
  have hl : lv_has ls 4 [(0, .ref h), (1, .ref (ad 75)), (2, .int nn)] := hl
  refine lv_iconst (v := 0) hx hb dX12_keep_0 (by decide) ?_
  refine lv_istore_n (lv' := [(3, .int 0), (0, .ref h), (1, .ref (ad 75)), (2, .int nn)]) hx hb dX12_keep_1 rfl hl (by decide) rfl (fun ls hl => ?_)
  refine my_cut (P := fun R9 a9 Q9 => ∀ (n_8 : Nat) (x_1 : Int32) (fv_2 : Nat → Int32) (ar_4 : Nat → Nat → Int32) (H : Heap) (locs : List Loc) (ls : Array Slot), 40 - x_1.toInt < (n_8 : Int) → (0 ≤ x_1.toInt ∧ x_1.toInt ≤ 40) → rF fv_2 → fM [89] fv fv_2 → rA ar_4 → fA [88] ar ar_4 → ((fv_2 89).toInt = (fv 89).toInt + x_1.toInt) → (x_1.toInt ≤ nn.toInt) → va_P (dC, dI) vwCl (wsM h ad cA fv_2 wd ar_4) H → va_S (aM h ad s.heap.size) s.heap H locs → lv_has ls 4 [(0, .ref h), (1, .ref (ad 75)), (2, .int nn), (3, .int x_1)] → W p l e R9 s m a9 below meth c H locs 0 0 Q9 (F0 m 2 ls [])) ?_ (fun hj_10 => ?_)
  · intro n_8
    induction n_8 with
    | zero => intro x_1 fv_2 ar_4 H locs ls fu_9 i_x_1 hF_fv_2 fr_3 hA_ar_4 fa_5 q_6 q_7; exfalso; omega
    | succ n_8 ih_8 =>
      intro x_1 fv_2 ar_4 H locs ls fu_9 i_x_1 hF_fv_2 fr_3 hA_ar_4 fa_5 q_6 q_7 hP hS hl
      refine lv_iload_n hx hb dX12_keep_2 rfl (lv_at hl 3 rfl) ?_
      refine lv_iload_n hx hb dX12_keep_3 rfl (lv_at hl 2 rfl) ?_
      refine lv_icmp_ge (tgt := 35) hx hb dX12_keep_4 (by decide) (fun c_11 => ?_) (fun c_11 => ?_)
      · skip
        have k_12 := Int32.le_iff_toInt_le.mp c_11
        have z_13 : 0 ≤ (fv_2 89).toInt ∧ (fv_2 89).toInt ≤ 441 := hF_fv_2 89
        exact W.vret hx hb hr (fun t ht hW => ⟨⟨(fv_2, wd, ar_4), rfl, ⟨hF_fv_2, hA_ar_4, (fM_call (fM_rf [89] _) fr_3 (by decide)), (fA_call (fA_rf [88] _) fa_5 (by decide)), (show (fv_2 89).toInt = (fv 89).toInt + nn.toInt from by omega), trivial⟩, ⟨by rw [ht]; exact hP, va_K.moved hW.alike hK⟩⟩, hS.F ht⟩) hS.2.2 dX12_keep_35
      · skip
        have i_14 : 0 ≤ x_1.toInt ∧ x_1.toInt ≤ 39 := iv_lt1 i_x_1 h_nn (Int32.not_le.mp c_11)
        have i_15 : 1 ≤ nn.toInt ∧ nn.toInt ≤ 40 := iv_lt2 i_x_1 h_nn (Int32.not_le.mp c_11)
        have k_16 := Int32.lt_iff_toInt_lt.mp (Int32.not_le.mp c_11)
        refine lv_aload_n hx hb dX12_keep_7 rfl (lv_at hl 0 rfl) ?_
        refine gM_88 hx hb htg hown hK hP dX12_keep_8 ?_
        refine lv_aload_n hx hb dX12_keep_11 rfl (lv_at hl 0 rfl) ?_
        refine gM_89 hx hb htg hown hK hP dX12_keep_12 ?_
        have i_17 : 0 ≤ (fv_2 89).toInt ∧ (fv_2 89).toInt ≤ 441 := hF_fv_2 89
        refine lv_aload_n hx hb dX12_keep_15 rfl (lv_at hl 1 rfl) ?_
        refine lv_iload_n hx hb dX12_keep_16 rfl (lv_at hl 3 rfl) ?_
        refine lM_75 hx hb hK hP (iv_in i_14 (by decide) (by decide)) dX12_keep_17 (fun v_18 ev_18 => ?_)
        refine sM_88 hx hb hK hP hS hd (vp_in_iff.mpr (by omega)) dX12_keep_18 (fun H locs ar_19 ear_19 hP hS => ?_)
        have hA_ar_19 : rA ar_19 := rA_put hA_ar_4 ear_19 (iv_any _)
        refine lv_aload_n hx hb dX12_keep_19 rfl (lv_at hl 0 rfl) ?_
        refine lv_dup hx hb dX12_keep_20 rfl ?_
        refine gM_89 hx hb htg hown hK hP dX12_keep_21 ?_
        refine lv_iconst (v := 1) hx hb dX12_keep_24 (by decide) ?_
        refine lv_iadd hx hb dX12_keep_25 ?_
        refine lv_topi (fun v_20 ev_20 => ?_)
        have t_21 : v_20.toInt = (fv_2 89).toInt + 1 ∧ 1 ≤ v_20.toInt ∧ v_20.toInt ≤ 442 := iv_addc ev_20 i_17 (by decide) (by decide) (by decide)
        have i_23 : 0 ≤ v_20.toInt ∧ v_20.toInt ≤ 441 := (by omega)
        refine pM_89 hx hb htg hown hK hP hS hd dX12_keep_26 (fun H locs fv_24 efv_24 hP hS => ?_)
        have hF_fv_24 : rF fv_24 := rF_put hF_fv_2 efv_24 i_23
        obtain ⟨v_25, ev_25⟩ : ∃ z : Int32, z = x_1 + 1 := ⟨_, rfl⟩
        refine lv_iinc (v := v_25) (lv' := [(3, .int v_25), (0, .ref h), (1, .ref (ad 75)), (2, .int nn)]) hx hb dX12_keep_29 hl (k := 3) rfl (by rw [ev_25]; rfl) (by decide) rfl (fun ls hl => ?_)
        have t_26 : v_25.toInt = x_1.toInt + 1 ∧ 1 ≤ v_25.toInt ∧ v_25.toInt ≤ 40 := iv_addc ev_25 i_14 (by decide) (by decide) (by decide)
        refine lv_goto (tgt := 2) hx hb dX12_keep_32 (by decide) ?_
        have z_28 : (fv_24 89).toInt = v_20.toInt := congrArg Int32.toInt ((congrFun efv_24 89))
        have z_29 : 0 ≤ (fv_24 89).toInt ∧ (fv_24 89).toInt ≤ 441 := hF_fv_24 89
        exact ih_8 v_25 fv_24 ar_19 _ _ ls (by omega) (iv_w t_26.2 (by decide) (by decide)) hF_fv_24 (fM_put (fM_call (fM_rf [89] _) fr_3 (by decide)) efv_24 (by decide)) hA_ar_19 (fA_put (fA_call (fA_rf [88] _) fa_5 (by decide)) ear_19 (by decide)) (by omega) (by omega) hP hS (lv_sub hl [1, 2, 3, 0] rfl)
  · skip
    have z_30 : (0 : Int32).toInt = 0 := by decide
    have z_31 : 0 ≤ (fv 89).toInt ∧ (fv 89).toInt ≤ 441 := hF_fv 89
    exact hj_10 41 0 fv ar _ _ ls (by first | decide | omega) (iv_w (⟨by decide, by decide⟩ : (0 : Int) ≤ (0 : Int32).toInt ∧ (0 : Int32).toInt ≤ 0) (by decide) (by decide)) hF_fv (fM_rf [89] _) hA_ar (fA_rf [88] _) (by omega) (by omega) hP hS (lv_sub hl [1, 2, 3, 0] rfl)
set_option maxHeartbeats 4000000 in
set_option maxRecDepth 100000 in
theorem m_putBack_75 (l : Launch) (dC : Nat → ClassId) (dI : Nat → Nat → Nat) (sz h : Nat) (ad : Nat → Nat) (cA : Nat → ClassId) (hd : dM h ad) (fv : Nat → Int32) (wd : Int64) (ar : Nat → Nat → Int32) (hF_fv : rF fv) (hA_ar : rA ar) (nn : Int32) (h_nn : 0 ≤ nn.toInt ∧ nn.toInt ≤ 40) (hk : (fv 89).toInt + nn.toInt ≤ 441) : Met l yX12_putBack (.code yX12_putBack cX12_putBack 4 none :: lw_good) ({ frames := 2, cells := 0, slots := 0, locals := 40 }) (va_Pc [.ref h, .ref (ad 75), .int nn] (prM dC dI h ad cA fv wd ar sz)) (va_Qv (fun (u : mS) => rF u.1 ∧ rA u.2.2 ∧ fM [89] fv u.1 ∧ fA [75] ar u.2.2 ∧ ((u.1 89).toInt = (fv 89).toInt + nn.toInt) ∧ True) (enM dC dI h ad cA) (aM h ad sz)) 0 0 (aM h ad sz) := by
  refine Met.ofW (cc := cX12_putBack) (maxL := 4) (ret := none) (by decide) rfl ?_
  intro p e s m args below meth c s₁ B hml hv
  obtain ⟨rfl, hsz, hP, hK⟩ := hv
  have hx := B.exec
  have hb := B.bytes
  have hr := B.returns
  have hts := atoms_spec (ws := (.code yX12_putBack cX12_putBack 4 none :: lw_good)) B.pre
  have htg : ∀ w ∈ lw_good, w.before _ s = true := fun w hw => hts w (List.mem_cons_of_mem _ hw)
  have hown : s.vm.findClass RX12 = some m.cls := findClass_of_methodNamed B.named
  have hlocks := B.notSynchronized
  subst hsz
  have hS : va_S (aM h ad s.heap.size) s.heap s.heap [] := va_S.rf
  have hl := lv_entry ([.ref h, .ref (ad 75), .int nn]) (n := 4) (Nat.le_of_ble_eq_true rfl)
  rw [lg_entry_eq]
  generalize (lg_sl ([.ref h, .ref (ad 75), .int nn]) ++ List.replicate (4 - (lg_sl ([.ref h, .ref (ad 75), .int nn])).length) Slot.unset).toArray = ls at hl ⊢
  have hl : lv_has ls 4 [(0, .ref h), (1, .ref (ad 75)), (2, .int nn)] := hl
  refine lv_iconst (v := 0) hx hb dX12_putBack_0 (by decide) ?_
  refine lv_istore_n (lv' := [(3, .int 0), (0, .ref h), (1, .ref (ad 75)), (2, .int nn)]) hx hb dX12_putBack_1 rfl hl (by decide) rfl (fun ls hl => ?_)
  refine my_cut (P := fun R9 a9 Q9 => ∀ (n_8 : Nat) (x_1 : Int32) (fv_2 : Nat → Int32) (ar_4 : Nat → Nat → Int32) (H : Heap) (locs : List Loc) (ls : Array Slot), 40 - x_1.toInt < (n_8 : Int) → (0 ≤ x_1.toInt ∧ x_1.toInt ≤ 40) → rF fv_2 → fM [89] fv fv_2 → rA ar_4 → fA [75] ar ar_4 → ((fv_2 89).toInt = (fv 89).toInt + x_1.toInt) → (x_1.toInt ≤ nn.toInt) → va_P (dC, dI) vwCl (wsM h ad cA fv_2 wd ar_4) H → va_S (aM h ad s.heap.size) s.heap H locs → lv_has ls 4 [(0, .ref h), (1, .ref (ad 75)), (2, .int nn), (3, .int x_1)] → W p l e R9 s m a9 below meth c H locs 0 0 Q9 (F0 m 2 ls [])) ?_ (fun hj_10 => ?_)
  · intro n_8
    induction n_8 with
    | zero => intro x_1 fv_2 ar_4 H locs ls fu_9 i_x_1 hF_fv_2 fr_3 hA_ar_4 fa_5 q_6 q_7; exfalso; omega
    | succ n_8 ih_8 =>
      intro x_1 fv_2 ar_4 H locs ls fu_9 i_x_1 hF_fv_2 fr_3 hA_ar_4 fa_5 q_6 q_7 hP hS hl
      refine lv_iload_n hx hb dX12_putBack_2 rfl (lv_at hl 3 rfl) ?_
      refine lv_iload_n hx hb dX12_putBack_3 rfl (lv_at hl 2 rfl) ?_
      refine lv_icmp_ge (tgt := 35) hx hb dX12_putBack_4 (by decide) (fun c_11 => ?_) (fun c_11 => ?_)
      · skip
        have k_12 := Int32.le_iff_toInt_le.mp c_11
        have z_13 : 0 ≤ (fv_2 89).toInt ∧ (fv_2 89).toInt ≤ 441 := hF_fv_2 89
        exact W.vret hx hb hr (fun t ht hW => ⟨⟨(fv_2, wd, ar_4), rfl, ⟨hF_fv_2, hA_ar_4, (fM_call (fM_rf [89] _) fr_3 (by decide)), (fA_call (fA_rf [75] _) fa_5 (by decide)), (show (fv_2 89).toInt = (fv 89).toInt + nn.toInt from by omega), trivial⟩, ⟨by rw [ht]; exact hP, va_K.moved hW.alike hK⟩⟩, hS.F ht⟩) hS.2.2 dX12_putBack_35
      · skip
        have i_14 : 0 ≤ x_1.toInt ∧ x_1.toInt ≤ 39 := iv_lt1 i_x_1 h_nn (Int32.not_le.mp c_11)
        have i_15 : 1 ≤ nn.toInt ∧ nn.toInt ≤ 40 := iv_lt2 i_x_1 h_nn (Int32.not_le.mp c_11)
        have k_16 := Int32.lt_iff_toInt_lt.mp (Int32.not_le.mp c_11)
        refine lv_aload_n hx hb dX12_putBack_7 rfl (lv_at hl 1 rfl) ?_
        refine lv_iload_n hx hb dX12_putBack_8 rfl (lv_at hl 3 rfl) ?_
        refine lv_aload_n hx hb dX12_putBack_9 rfl (lv_at hl 0 rfl) ?_
        refine gM_88 hx hb htg hown hK hP dX12_putBack_10 ?_
        refine lv_aload_n hx hb dX12_putBack_13 rfl (lv_at hl 0 rfl) ?_
        refine gM_89 hx hb htg hown hK hP dX12_putBack_14 ?_
        have i_17 : 0 ≤ (fv_2 89).toInt ∧ (fv_2 89).toInt ≤ 441 := hF_fv_2 89
        refine lM_88 hx hb hK hP (vp_in_iff.mpr (by omega)) dX12_putBack_17 (fun v_18 ev_18 => ?_)
        refine sM_75 hx hb hK hP hS hd (iv_in i_14 (by decide) (by decide)) dX12_putBack_18 (fun H locs ar_19 ear_19 hP hS => ?_)
        have hA_ar_19 : rA ar_19 := rA_put hA_ar_4 ear_19 (iv_any _)
        refine lv_aload_n hx hb dX12_putBack_19 rfl (lv_at hl 0 rfl) ?_
        refine lv_dup hx hb dX12_putBack_20 rfl ?_
        refine gM_89 hx hb htg hown hK hP dX12_putBack_21 ?_
        refine lv_iconst (v := 1) hx hb dX12_putBack_24 (by decide) ?_
        refine lv_iadd hx hb dX12_putBack_25 ?_
        refine lv_topi (fun v_20 ev_20 => ?_)
        have t_21 : v_20.toInt = (fv_2 89).toInt + 1 ∧ 1 ≤ v_20.toInt ∧ v_20.toInt ≤ 442 := iv_addc ev_20 i_17 (by decide) (by decide) (by decide)
        have i_23 : 0 ≤ v_20.toInt ∧ v_20.toInt ≤ 441 := (by omega)
        refine pM_89 hx hb htg hown hK hP hS hd dX12_putBack_26 (fun H locs fv_24 efv_24 hP hS => ?_)
        have hF_fv_24 : rF fv_24 := rF_put hF_fv_2 efv_24 i_23
        obtain ⟨v_25, ev_25⟩ : ∃ z : Int32, z = x_1 + 1 := ⟨_, rfl⟩
        refine lv_iinc (v := v_25) (lv' := [(3, .int v_25), (0, .ref h), (1, .ref (ad 75)), (2, .int nn)]) hx hb dX12_putBack_29 hl (k := 3) rfl (by rw [ev_25]; rfl) (by decide) rfl (fun ls hl => ?_)
        have t_26 : v_25.toInt = x_1.toInt + 1 ∧ 1 ≤ v_25.toInt ∧ v_25.toInt ≤ 40 := iv_addc ev_25 i_14 (by decide) (by decide) (by decide)
        refine lv_goto (tgt := 2) hx hb dX12_putBack_32 (by decide) ?_
        have z_28 : (fv_24 89).toInt = v_20.toInt := congrArg Int32.toInt ((congrFun efv_24 89))
        have z_29 : 0 ≤ (fv_24 89).toInt ∧ (fv_24 89).toInt ≤ 441 := hF_fv_24 89
        exact ih_8 v_25 fv_24 ar_19 _ _ ls (by omega) (iv_w t_26.2 (by decide) (by decide)) hF_fv_24 (fM_put (fM_call (fM_rf [89] _) fr_3 (by decide)) efv_24 (by decide)) hA_ar_19 (fA_put (fA_call (fA_rf [75] _) fa_5 (by decide)) ear_19 (by decide)) (by omega) (by omega) hP hS (lv_sub hl [1, 2, 3, 0] rfl)
  · skip
    have z_30 : (0 : Int32).toInt = 0 := by decide
    have z_31 : 0 ≤ (fv 89).toInt ∧ (fv 89).toInt ≤ 441 := hF_fv 89
    exact hj_10 41 0 fv ar _ _ ls (by first | decide | omega) (iv_w (⟨by decide, by decide⟩ : (0 : Int) ≤ (0 : Int32).toInt ∧ (0 : Int32).toInt ≤ 0) (by decide) (by decide)) hF_fv (fM_rf [89] _) hA_ar (fA_rf [75] _) (by omega) (by omega) hP hS (lv_sub hl [1, 2, 3, 0] rfl)
set_option maxHeartbeats 4000000 in
set_option maxRecDepth 100000 in
theorem m_keep_24 (l : Launch) (dC : Nat → ClassId) (dI : Nat → Nat → Nat) (sz h : Nat) (ad : Nat → Nat) (cA : Nat → ClassId) (hd : dM h ad) (fv : Nat → Int32) (wd : Int64) (ar : Nat → Nat → Int32) (hF_fv : rF fv) (hA_ar : rA ar) (nn : Int32) (h_nn : 0 ≤ nn.toInt ∧ nn.toInt ≤ 20) (hk : (fv 89).toInt + nn.toInt ≤ 441) : Met l yX12_keep (.code yX12_keep cX12_keep 4 none :: lw_good) ({ frames := 2, cells := 0, slots := 0, locals := 40 }) (va_Pc [.ref h, .ref (ad 24), .int nn] (prM dC dI h ad cA fv wd ar sz)) (va_Qv (fun (u : mS) => rF u.1 ∧ rA u.2.2 ∧ fM [89] fv u.1 ∧ fA [88] ar u.2.2 ∧ ((u.1 89).toInt = (fv 89).toInt + nn.toInt) ∧ True) (enM dC dI h ad cA) (aM h ad sz)) 0 0 (aM h ad sz) := by
  refine Met.ofW (cc := cX12_keep) (maxL := 4) (ret := none) (by decide) rfl ?_
  intro p e s m args below meth c s₁ B hml hv
  obtain ⟨rfl, hsz, hP, hK⟩ := hv
  have hx := B.exec
  have hb := B.bytes
  have hr := B.returns
  have hts := atoms_spec (ws := (.code yX12_keep cX12_keep 4 none :: lw_good)) B.pre
  have htg : ∀ w ∈ lw_good, w.before _ s = true := fun w hw => hts w (List.mem_cons_of_mem _ hw)
  have hown : s.vm.findClass RX12 = some m.cls := findClass_of_methodNamed B.named
  have hlocks := B.notSynchronized
  subst hsz
  have hS : va_S (aM h ad s.heap.size) s.heap s.heap [] := va_S.rf
  have hl := lv_entry ([.ref h, .ref (ad 24), .int nn]) (n := 4) (Nat.le_of_ble_eq_true rfl)
  rw [lg_entry_eq]
  generalize (lg_sl ([.ref h, .ref (ad 24), .int nn]) ++ List.replicate (4 - (lg_sl ([.ref h, .ref (ad 24), .int nn])).length) Slot.unset).toArray = ls at hl ⊢
  have hl : lv_has ls 4 [(0, .ref h), (1, .ref (ad 24)), (2, .int nn)] := hl
  refine lv_iconst (v := 0) hx hb dX12_keep_0 (by decide) ?_
  refine lv_istore_n (lv' := [(3, .int 0), (0, .ref h), (1, .ref (ad 24)), (2, .int nn)]) hx hb dX12_keep_1 rfl hl (by decide) rfl (fun ls hl => ?_)
  refine my_cut (P := fun R9 a9 Q9 => ∀ (n_8 : Nat) (x_1 : Int32) (fv_2 : Nat → Int32) (ar_4 : Nat → Nat → Int32) (H : Heap) (locs : List Loc) (ls : Array Slot), 20 - x_1.toInt < (n_8 : Int) → (0 ≤ x_1.toInt ∧ x_1.toInt ≤ 20) → rF fv_2 → fM [89] fv fv_2 → rA ar_4 → fA [88] ar ar_4 → ((fv_2 89).toInt = (fv 89).toInt + x_1.toInt) → (x_1.toInt ≤ nn.toInt) → va_P (dC, dI) vwCl (wsM h ad cA fv_2 wd ar_4) H → va_S (aM h ad s.heap.size) s.heap H locs → lv_has ls 4 [(0, .ref h), (1, .ref (ad 24)), (2, .int nn), (3, .int x_1)] → W p l e R9 s m a9 below meth c H locs 0 0 Q9 (F0 m 2 ls [])) ?_ (fun hj_10 => ?_)
  · intro n_8
    induction n_8 with
    | zero => intro x_1 fv_2 ar_4 H locs ls fu_9 i_x_1 hF_fv_2 fr_3 hA_ar_4 fa_5 q_6 q_7; exfalso; omega
    | succ n_8 ih_8 =>
      intro x_1 fv_2 ar_4 H locs ls fu_9 i_x_1 hF_fv_2 fr_3 hA_ar_4 fa_5 q_6 q_7 hP hS hl
      refine lv_iload_n hx hb dX12_keep_2 rfl (lv_at hl 3 rfl) ?_
      refine lv_iload_n hx hb dX12_keep_3 rfl (lv_at hl 2 rfl) ?_
      refine lv_icmp_ge (tgt := 35) hx hb dX12_keep_4 (by decide) (fun c_11 => ?_) (fun c_11 => ?_)
      · skip
        have k_12 := Int32.le_iff_toInt_le.mp c_11
        have z_13 : 0 ≤ (fv_2 89).toInt ∧ (fv_2 89).toInt ≤ 441 := hF_fv_2 89
        exact W.vret hx hb hr (fun t ht hW => ⟨⟨(fv_2, wd, ar_4), rfl, ⟨hF_fv_2, hA_ar_4, (fM_call (fM_rf [89] _) fr_3 (by decide)), (fA_call (fA_rf [88] _) fa_5 (by decide)), (show (fv_2 89).toInt = (fv 89).toInt + nn.toInt from by omega), trivial⟩, ⟨by rw [ht]; exact hP, va_K.moved hW.alike hK⟩⟩, hS.F ht⟩) hS.2.2 dX12_keep_35
      · skip
        have i_14 : 0 ≤ x_1.toInt ∧ x_1.toInt ≤ 19 := iv_lt1 i_x_1 h_nn (Int32.not_le.mp c_11)
        have i_15 : 1 ≤ nn.toInt ∧ nn.toInt ≤ 20 := iv_lt2 i_x_1 h_nn (Int32.not_le.mp c_11)
        have k_16 := Int32.lt_iff_toInt_lt.mp (Int32.not_le.mp c_11)
        refine lv_aload_n hx hb dX12_keep_7 rfl (lv_at hl 0 rfl) ?_
        refine gM_88 hx hb htg hown hK hP dX12_keep_8 ?_
        refine lv_aload_n hx hb dX12_keep_11 rfl (lv_at hl 0 rfl) ?_
        refine gM_89 hx hb htg hown hK hP dX12_keep_12 ?_
        have i_17 : 0 ≤ (fv_2 89).toInt ∧ (fv_2 89).toInt ≤ 441 := hF_fv_2 89
        refine lv_aload_n hx hb dX12_keep_15 rfl (lv_at hl 1 rfl) ?_
        refine lv_iload_n hx hb dX12_keep_16 rfl (lv_at hl 3 rfl) ?_
        refine lM_24 hx hb hK hP (iv_in i_14 (by decide) (by decide)) dX12_keep_17 (fun v_18 ev_18 => ?_)
        refine sM_88 hx hb hK hP hS hd (vp_in_iff.mpr (by omega)) dX12_keep_18 (fun H locs ar_19 ear_19 hP hS => ?_)
        have hA_ar_19 : rA ar_19 := rA_put hA_ar_4 ear_19 (iv_any _)
        refine lv_aload_n hx hb dX12_keep_19 rfl (lv_at hl 0 rfl) ?_
        refine lv_dup hx hb dX12_keep_20 rfl ?_
        refine gM_89 hx hb htg hown hK hP dX12_keep_21 ?_
        refine lv_iconst (v := 1) hx hb dX12_keep_24 (by decide) ?_
        refine lv_iadd hx hb dX12_keep_25 ?_
        refine lv_topi (fun v_20 ev_20 => ?_)
        have t_21 : v_20.toInt = (fv_2 89).toInt + 1 ∧ 1 ≤ v_20.toInt ∧ v_20.toInt ≤ 442 := iv_addc ev_20 i_17 (by decide) (by decide) (by decide)
        have i_23 : 0 ≤ v_20.toInt ∧ v_20.toInt ≤ 441 := (by omega)
        refine pM_89 hx hb htg hown hK hP hS hd dX12_keep_26 (fun H locs fv_24 efv_24 hP hS => ?_)
        have hF_fv_24 : rF fv_24 := rF_put hF_fv_2 efv_24 i_23
        obtain ⟨v_25, ev_25⟩ : ∃ z : Int32, z = x_1 + 1 := ⟨_, rfl⟩
        refine lv_iinc (v := v_25) (lv' := [(3, .int v_25), (0, .ref h), (1, .ref (ad 24)), (2, .int nn)]) hx hb dX12_keep_29 hl (k := 3) rfl (by rw [ev_25]; rfl) (by decide) rfl (fun ls hl => ?_)
        have t_26 : v_25.toInt = x_1.toInt + 1 ∧ 1 ≤ v_25.toInt ∧ v_25.toInt ≤ 20 := iv_addc ev_25 i_14 (by decide) (by decide) (by decide)
        refine lv_goto (tgt := 2) hx hb dX12_keep_32 (by decide) ?_
        have z_28 : (fv_24 89).toInt = v_20.toInt := congrArg Int32.toInt ((congrFun efv_24 89))
        have z_29 : 0 ≤ (fv_24 89).toInt ∧ (fv_24 89).toInt ≤ 441 := hF_fv_24 89
        exact ih_8 v_25 fv_24 ar_19 _ _ ls (by omega) (iv_w t_26.2 (by decide) (by decide)) hF_fv_24 (fM_put (fM_call (fM_rf [89] _) fr_3 (by decide)) efv_24 (by decide)) hA_ar_19 (fA_put (fA_call (fA_rf [88] _) fa_5 (by decide)) ear_19 (by decide)) (by omega) (by omega) hP hS (lv_sub hl [1, 2, 3, 0] rfl)
  · skip
    have z_30 : (0 : Int32).toInt = 0 := by decide
    have z_31 : 0 ≤ (fv 89).toInt ∧ (fv 89).toInt ≤ 441 := hF_fv 89
    exact hj_10 21 0 fv ar _ _ ls (by first | decide | omega) (iv_w (⟨by decide, by decide⟩ : (0 : Int) ≤ (0 : Int32).toInt ∧ (0 : Int32).toInt ≤ 0) (by decide) (by decide)) hF_fv (fM_rf [89] _) hA_ar (fA_rf [88] _) (by omega) (by omega) hP hS (lv_sub hl [1, 2, 3, 0] rfl)
set_option maxHeartbeats 4000000 in
set_option maxRecDepth 100000 in
theorem m_putBack_24 (l : Launch) (dC : Nat → ClassId) (dI : Nat → Nat → Nat) (sz h : Nat) (ad : Nat → Nat) (cA : Nat → ClassId) (hd : dM h ad) (fv : Nat → Int32) (wd : Int64) (ar : Nat → Nat → Int32) (hF_fv : rF fv) (hA_ar : rA ar) (nn : Int32) (h_nn : 0 ≤ nn.toInt ∧ nn.toInt ≤ 20) (hk : (fv 89).toInt + nn.toInt ≤ 441) : Met l yX12_putBack (.code yX12_putBack cX12_putBack 4 none :: lw_good) ({ frames := 2, cells := 0, slots := 0, locals := 40 }) (va_Pc [.ref h, .ref (ad 24), .int nn] (prM dC dI h ad cA fv wd ar sz)) (va_Qv (fun (u : mS) => rF u.1 ∧ rA u.2.2 ∧ fM [89] fv u.1 ∧ fA [24] ar u.2.2 ∧ ((u.1 89).toInt = (fv 89).toInt + nn.toInt) ∧ True) (enM dC dI h ad cA) (aM h ad sz)) 0 0 (aM h ad sz) := by
  refine Met.ofW (cc := cX12_putBack) (maxL := 4) (ret := none) (by decide) rfl ?_
  intro p e s m args below meth c s₁ B hml hv
  obtain ⟨rfl, hsz, hP, hK⟩ := hv
  have hx := B.exec
  have hb := B.bytes
  have hr := B.returns
  have hts := atoms_spec (ws := (.code yX12_putBack cX12_putBack 4 none :: lw_good)) B.pre
  have htg : ∀ w ∈ lw_good, w.before _ s = true := fun w hw => hts w (List.mem_cons_of_mem _ hw)
  have hown : s.vm.findClass RX12 = some m.cls := findClass_of_methodNamed B.named
  have hlocks := B.notSynchronized
  subst hsz
  have hS : va_S (aM h ad s.heap.size) s.heap s.heap [] := va_S.rf
  have hl := lv_entry ([.ref h, .ref (ad 24), .int nn]) (n := 4) (Nat.le_of_ble_eq_true rfl)
  rw [lg_entry_eq]
  generalize (lg_sl ([.ref h, .ref (ad 24), .int nn]) ++ List.replicate (4 - (lg_sl ([.ref h, .ref (ad 24), .int nn])).length) Slot.unset).toArray = ls at hl ⊢
  have hl : lv_has ls 4 [(0, .ref h), (1, .ref (ad 24)), (2, .int nn)] := hl
  refine lv_iconst (v := 0) hx hb dX12_putBack_0 (by decide) ?_
  refine lv_istore_n (lv' := [(3, .int 0), (0, .ref h), (1, .ref (ad 24)), (2, .int nn)]) hx hb dX12_putBack_1 rfl hl (by decide) rfl (fun ls hl => ?_)
  refine my_cut (P := fun R9 a9 Q9 => ∀ (n_8 : Nat) (x_1 : Int32) (fv_2 : Nat → Int32) (ar_4 : Nat → Nat → Int32) (H : Heap) (locs : List Loc) (ls : Array Slot), 20 - x_1.toInt < (n_8 : Int) → (0 ≤ x_1.toInt ∧ x_1.toInt ≤ 20) → rF fv_2 → fM [89] fv fv_2 → rA ar_4 → fA [24] ar ar_4 → ((fv_2 89).toInt = (fv 89).toInt + x_1.toInt) → (x_1.toInt ≤ nn.toInt) → va_P (dC, dI) vwCl (wsM h ad cA fv_2 wd ar_4) H → va_S (aM h ad s.heap.size) s.heap H locs → lv_has ls 4 [(0, .ref h), (1, .ref (ad 24)), (2, .int nn), (3, .int x_1)] → W p l e R9 s m a9 below meth c H locs 0 0 Q9 (F0 m 2 ls [])) ?_ (fun hj_10 => ?_)
  · intro n_8
    induction n_8 with
    | zero => intro x_1 fv_2 ar_4 H locs ls fu_9 i_x_1 hF_fv_2 fr_3 hA_ar_4 fa_5 q_6 q_7; exfalso; omega
    | succ n_8 ih_8 =>
      intro x_1 fv_2 ar_4 H locs ls fu_9 i_x_1 hF_fv_2 fr_3 hA_ar_4 fa_5 q_6 q_7 hP hS hl
      refine lv_iload_n hx hb dX12_putBack_2 rfl (lv_at hl 3 rfl) ?_
      refine lv_iload_n hx hb dX12_putBack_3 rfl (lv_at hl 2 rfl) ?_
      refine lv_icmp_ge (tgt := 35) hx hb dX12_putBack_4 (by decide) (fun c_11 => ?_) (fun c_11 => ?_)
      · skip
        have k_12 := Int32.le_iff_toInt_le.mp c_11
        have z_13 : 0 ≤ (fv_2 89).toInt ∧ (fv_2 89).toInt ≤ 441 := hF_fv_2 89
        exact W.vret hx hb hr (fun t ht hW => ⟨⟨(fv_2, wd, ar_4), rfl, ⟨hF_fv_2, hA_ar_4, (fM_call (fM_rf [89] _) fr_3 (by decide)), (fA_call (fA_rf [24] _) fa_5 (by decide)), (show (fv_2 89).toInt = (fv 89).toInt + nn.toInt from by omega), trivial⟩, ⟨by rw [ht]; exact hP, va_K.moved hW.alike hK⟩⟩, hS.F ht⟩) hS.2.2 dX12_putBack_35
      · skip
        have i_14 : 0 ≤ x_1.toInt ∧ x_1.toInt ≤ 19 := iv_lt1 i_x_1 h_nn (Int32.not_le.mp c_11)
        have i_15 : 1 ≤ nn.toInt ∧ nn.toInt ≤ 20 := iv_lt2 i_x_1 h_nn (Int32.not_le.mp c_11)
        have k_16 := Int32.lt_iff_toInt_lt.mp (Int32.not_le.mp c_11)
        refine lv_aload_n hx hb dX12_putBack_7 rfl (lv_at hl 1 rfl) ?_
        refine lv_iload_n hx hb dX12_putBack_8 rfl (lv_at hl 3 rfl) ?_
        refine lv_aload_n hx hb dX12_putBack_9 rfl (lv_at hl 0 rfl) ?_
        refine gM_88 hx hb htg hown hK hP dX12_putBack_10 ?_
        refine lv_aload_n hx hb dX12_putBack_13 rfl (lv_at hl 0 rfl) ?_
        refine gM_89 hx hb htg hown hK hP dX12_putBack_14 ?_
        have i_17 : 0 ≤ (fv_2 89).toInt ∧ (fv_2 89).toInt ≤ 441 := hF_fv_2 89
        refine lM_88 hx hb hK hP (vp_in_iff.mpr (by omega)) dX12_putBack_17 (fun v_18 ev_18 => ?_)
        refine sM_24 hx hb hK hP hS hd (iv_in i_14 (by decide) (by decide)) dX12_putBack_18 (fun H locs ar_19 ear_19 hP hS => ?_)
        have hA_ar_19 : rA ar_19 := rA_put hA_ar_4 ear_19 (iv_any _)
        refine lv_aload_n hx hb dX12_putBack_19 rfl (lv_at hl 0 rfl) ?_
        refine lv_dup hx hb dX12_putBack_20 rfl ?_
        refine gM_89 hx hb htg hown hK hP dX12_putBack_21 ?_
        refine lv_iconst (v := 1) hx hb dX12_putBack_24 (by decide) ?_
        refine lv_iadd hx hb dX12_putBack_25 ?_
        refine lv_topi (fun v_20 ev_20 => ?_)
        have t_21 : v_20.toInt = (fv_2 89).toInt + 1 ∧ 1 ≤ v_20.toInt ∧ v_20.toInt ≤ 442 := iv_addc ev_20 i_17 (by decide) (by decide) (by decide)
        have i_23 : 0 ≤ v_20.toInt ∧ v_20.toInt ≤ 441 := (by omega)
        refine pM_89 hx hb htg hown hK hP hS hd dX12_putBack_26 (fun H locs fv_24 efv_24 hP hS => ?_)
        have hF_fv_24 : rF fv_24 := rF_put hF_fv_2 efv_24 i_23
        obtain ⟨v_25, ev_25⟩ : ∃ z : Int32, z = x_1 + 1 := ⟨_, rfl⟩
        refine lv_iinc (v := v_25) (lv' := [(3, .int v_25), (0, .ref h), (1, .ref (ad 24)), (2, .int nn)]) hx hb dX12_putBack_29 hl (k := 3) rfl (by rw [ev_25]; rfl) (by decide) rfl (fun ls hl => ?_)
        have t_26 : v_25.toInt = x_1.toInt + 1 ∧ 1 ≤ v_25.toInt ∧ v_25.toInt ≤ 20 := iv_addc ev_25 i_14 (by decide) (by decide) (by decide)
        refine lv_goto (tgt := 2) hx hb dX12_putBack_32 (by decide) ?_
        have z_28 : (fv_24 89).toInt = v_20.toInt := congrArg Int32.toInt ((congrFun efv_24 89))
        have z_29 : 0 ≤ (fv_24 89).toInt ∧ (fv_24 89).toInt ≤ 441 := hF_fv_24 89
        exact ih_8 v_25 fv_24 ar_19 _ _ ls (by omega) (iv_w t_26.2 (by decide) (by decide)) hF_fv_24 (fM_put (fM_call (fM_rf [89] _) fr_3 (by decide)) efv_24 (by decide)) hA_ar_19 (fA_put (fA_call (fA_rf [24] _) fa_5 (by decide)) ear_19 (by decide)) (by omega) (by omega) hP hS (lv_sub hl [1, 2, 3, 0] rfl)
  · skip
    have z_30 : (0 : Int32).toInt = 0 := by decide
    have z_31 : 0 ≤ (fv 89).toInt ∧ (fv 89).toInt ≤ 441 := hF_fv 89
    exact hj_10 21 0 fv ar _ _ ls (by first | decide | omega) (iv_w (⟨by decide, by decide⟩ : (0 : Int) ≤ (0 : Int32).toInt ∧ (0 : Int32).toInt ≤ 0) (by decide) (by decide)) hF_fv (fM_rf [89] _) hA_ar (fA_rf [24] _) (by omega) (by omega) hP hS (lv_sub hl [1, 2, 3, 0] rfl)
set_option maxHeartbeats 4000000 in
set_option maxRecDepth 100000 in
theorem m_keep_76 (l : Launch) (dC : Nat → ClassId) (dI : Nat → Nat → Nat) (sz h : Nat) (ad : Nat → Nat) (cA : Nat → ClassId) (hd : dM h ad) (fv : Nat → Int32) (wd : Int64) (ar : Nat → Nat → Int32) (hF_fv : rF fv) (hA_ar : rA ar) (nn : Int32) (h_nn : 0 ≤ nn.toInt ∧ nn.toInt ≤ 20) (hk : (fv 89).toInt + nn.toInt ≤ 441) : Met l yX12_keep (.code yX12_keep cX12_keep 4 none :: lw_good) ({ frames := 2, cells := 0, slots := 0, locals := 40 }) (va_Pc [.ref h, .ref (ad 76), .int nn] (prM dC dI h ad cA fv wd ar sz)) (va_Qv (fun (u : mS) => rF u.1 ∧ rA u.2.2 ∧ fM [89] fv u.1 ∧ fA [88] ar u.2.2 ∧ ((u.1 89).toInt = (fv 89).toInt + nn.toInt) ∧ True) (enM dC dI h ad cA) (aM h ad sz)) 0 0 (aM h ad sz) := by
  refine Met.ofW (cc := cX12_keep) (maxL := 4) (ret := none) (by decide) rfl ?_
  intro p e s m args below meth c s₁ B hml hv
  obtain ⟨rfl, hsz, hP, hK⟩ := hv
  have hx := B.exec
  have hb := B.bytes
  have hr := B.returns
  have hts := atoms_spec (ws := (.code yX12_keep cX12_keep 4 none :: lw_good)) B.pre
  have htg : ∀ w ∈ lw_good, w.before _ s = true := fun w hw => hts w (List.mem_cons_of_mem _ hw)
  have hown : s.vm.findClass RX12 = some m.cls := findClass_of_methodNamed B.named
  have hlocks := B.notSynchronized
  subst hsz
  have hS : va_S (aM h ad s.heap.size) s.heap s.heap [] := va_S.rf
  have hl := lv_entry ([.ref h, .ref (ad 76), .int nn]) (n := 4) (Nat.le_of_ble_eq_true rfl)
  rw [lg_entry_eq]
  generalize (lg_sl ([.ref h, .ref (ad 76), .int nn]) ++ List.replicate (4 - (lg_sl ([.ref h, .ref (ad 76), .int nn])).length) Slot.unset).toArray = ls at hl ⊢
  have hl : lv_has ls 4 [(0, .ref h), (1, .ref (ad 76)), (2, .int nn)] := hl
  refine lv_iconst (v := 0) hx hb dX12_keep_0 (by decide) ?_
  refine lv_istore_n (lv' := [(3, .int 0), (0, .ref h), (1, .ref (ad 76)), (2, .int nn)]) hx hb dX12_keep_1 rfl hl (by decide) rfl (fun ls hl => ?_)
  refine my_cut (P := fun R9 a9 Q9 => ∀ (n_8 : Nat) (x_1 : Int32) (fv_2 : Nat → Int32) (ar_4 : Nat → Nat → Int32) (H : Heap) (locs : List Loc) (ls : Array Slot), 20 - x_1.toInt < (n_8 : Int) → (0 ≤ x_1.toInt ∧ x_1.toInt ≤ 20) → rF fv_2 → fM [89] fv fv_2 → rA ar_4 → fA [88] ar ar_4 → ((fv_2 89).toInt = (fv 89).toInt + x_1.toInt) → (x_1.toInt ≤ nn.toInt) → va_P (dC, dI) vwCl (wsM h ad cA fv_2 wd ar_4) H → va_S (aM h ad s.heap.size) s.heap H locs → lv_has ls 4 [(0, .ref h), (1, .ref (ad 76)), (2, .int nn), (3, .int x_1)] → W p l e R9 s m a9 below meth c H locs 0 0 Q9 (F0 m 2 ls [])) ?_ (fun hj_10 => ?_)
  · intro n_8
    induction n_8 with
    | zero => intro x_1 fv_2 ar_4 H locs ls fu_9 i_x_1 hF_fv_2 fr_3 hA_ar_4 fa_5 q_6 q_7; exfalso; omega
    | succ n_8 ih_8 =>
      intro x_1 fv_2 ar_4 H locs ls fu_9 i_x_1 hF_fv_2 fr_3 hA_ar_4 fa_5 q_6 q_7 hP hS hl
      refine lv_iload_n hx hb dX12_keep_2 rfl (lv_at hl 3 rfl) ?_
      refine lv_iload_n hx hb dX12_keep_3 rfl (lv_at hl 2 rfl) ?_
      refine lv_icmp_ge (tgt := 35) hx hb dX12_keep_4 (by decide) (fun c_11 => ?_) (fun c_11 => ?_)
      · skip
        have k_12 := Int32.le_iff_toInt_le.mp c_11
        have z_13 : 0 ≤ (fv_2 89).toInt ∧ (fv_2 89).toInt ≤ 441 := hF_fv_2 89
        exact W.vret hx hb hr (fun t ht hW => ⟨⟨(fv_2, wd, ar_4), rfl, ⟨hF_fv_2, hA_ar_4, (fM_call (fM_rf [89] _) fr_3 (by decide)), (fA_call (fA_rf [88] _) fa_5 (by decide)), (show (fv_2 89).toInt = (fv 89).toInt + nn.toInt from by omega), trivial⟩, ⟨by rw [ht]; exact hP, va_K.moved hW.alike hK⟩⟩, hS.F ht⟩) hS.2.2 dX12_keep_35
      · skip
        have i_14 : 0 ≤ x_1.toInt ∧ x_1.toInt ≤ 19 := iv_lt1 i_x_1 h_nn (Int32.not_le.mp c_11)
        have i_15 : 1 ≤ nn.toInt ∧ nn.toInt ≤ 20 := iv_lt2 i_x_1 h_nn (Int32.not_le.mp c_11)
        have k_16 := Int32.lt_iff_toInt_lt.mp (Int32.not_le.mp c_11)
        refine lv_aload_n hx hb dX12_keep_7 rfl (lv_at hl 0 rfl) ?_
        refine gM_88 hx hb htg hown hK hP dX12_keep_8 ?_
        refine lv_aload_n hx hb dX12_keep_11 rfl (lv_at hl 0 rfl) ?_
        refine gM_89 hx hb htg hown hK hP dX12_keep_12 ?_
        have i_17 : 0 ≤ (fv_2 89).toInt ∧ (fv_2 89).toInt ≤ 441 := hF_fv_2 89
        refine lv_aload_n hx hb dX12_keep_15 rfl (lv_at hl 1 rfl) ?_
        refine lv_iload_n hx hb dX12_keep_16 rfl (lv_at hl 3 rfl) ?_
        refine lM_76 hx hb hK hP (iv_in i_14 (by decide) (by decide)) dX12_keep_17 (fun v_18 ev_18 => ?_)
        refine sM_88 hx hb hK hP hS hd (vp_in_iff.mpr (by omega)) dX12_keep_18 (fun H locs ar_19 ear_19 hP hS => ?_)
        have hA_ar_19 : rA ar_19 := rA_put hA_ar_4 ear_19 (iv_any _)
        refine lv_aload_n hx hb dX12_keep_19 rfl (lv_at hl 0 rfl) ?_
        refine lv_dup hx hb dX12_keep_20 rfl ?_
        refine gM_89 hx hb htg hown hK hP dX12_keep_21 ?_
        refine lv_iconst (v := 1) hx hb dX12_keep_24 (by decide) ?_
        refine lv_iadd hx hb dX12_keep_25 ?_
        refine lv_topi (fun v_20 ev_20 => ?_)
        have t_21 : v_20.toInt = (fv_2 89).toInt + 1 ∧ 1 ≤ v_20.toInt ∧ v_20.toInt ≤ 442 := iv_addc ev_20 i_17 (by decide) (by decide) (by decide)
        have i_23 : 0 ≤ v_20.toInt ∧ v_20.toInt ≤ 441 := (by omega)
        refine pM_89 hx hb htg hown hK hP hS hd dX12_keep_26 (fun H locs fv_24 efv_24 hP hS => ?_)
        have hF_fv_24 : rF fv_24 := rF_put hF_fv_2 efv_24 i_23
        obtain ⟨v_25, ev_25⟩ : ∃ z : Int32, z = x_1 + 1 := ⟨_, rfl⟩
        refine lv_iinc (v := v_25) (lv' := [(3, .int v_25), (0, .ref h), (1, .ref (ad 76)), (2, .int nn)]) hx hb dX12_keep_29 hl (k := 3) rfl (by rw [ev_25]; rfl) (by decide) rfl (fun ls hl => ?_)
        have t_26 : v_25.toInt = x_1.toInt + 1 ∧ 1 ≤ v_25.toInt ∧ v_25.toInt ≤ 20 := iv_addc ev_25 i_14 (by decide) (by decide) (by decide)
        refine lv_goto (tgt := 2) hx hb dX12_keep_32 (by decide) ?_
        have z_28 : (fv_24 89).toInt = v_20.toInt := congrArg Int32.toInt ((congrFun efv_24 89))
        have z_29 : 0 ≤ (fv_24 89).toInt ∧ (fv_24 89).toInt ≤ 441 := hF_fv_24 89
        exact ih_8 v_25 fv_24 ar_19 _ _ ls (by omega) (iv_w t_26.2 (by decide) (by decide)) hF_fv_24 (fM_put (fM_call (fM_rf [89] _) fr_3 (by decide)) efv_24 (by decide)) hA_ar_19 (fA_put (fA_call (fA_rf [88] _) fa_5 (by decide)) ear_19 (by decide)) (by omega) (by omega) hP hS (lv_sub hl [1, 2, 3, 0] rfl)
  · skip
    have z_30 : (0 : Int32).toInt = 0 := by decide
    have z_31 : 0 ≤ (fv 89).toInt ∧ (fv 89).toInt ≤ 441 := hF_fv 89
    exact hj_10 21 0 fv ar _ _ ls (by first | decide | omega) (iv_w (⟨by decide, by decide⟩ : (0 : Int) ≤ (0 : Int32).toInt ∧ (0 : Int32).toInt ≤ 0) (by decide) (by decide)) hF_fv (fM_rf [89] _) hA_ar (fA_rf [88] _) (by omega) (by omega) hP hS (lv_sub hl [1, 2, 3, 0] rfl)
set_option maxHeartbeats 4000000 in
set_option maxRecDepth 100000 in
theorem m_putBack_76 (l : Launch) (dC : Nat → ClassId) (dI : Nat → Nat → Nat) (sz h : Nat) (ad : Nat → Nat) (cA : Nat → ClassId) (hd : dM h ad) (fv : Nat → Int32) (wd : Int64) (ar : Nat → Nat → Int32) (hF_fv : rF fv) (hA_ar : rA ar) (nn : Int32) (h_nn : 0 ≤ nn.toInt ∧ nn.toInt ≤ 20) (hk : (fv 89).toInt + nn.toInt ≤ 441) : Met l yX12_putBack (.code yX12_putBack cX12_putBack 4 none :: lw_good) ({ frames := 2, cells := 0, slots := 0, locals := 40 }) (va_Pc [.ref h, .ref (ad 76), .int nn] (prM dC dI h ad cA fv wd ar sz)) (va_Qv (fun (u : mS) => rF u.1 ∧ rA u.2.2 ∧ fM [89] fv u.1 ∧ fA [76] ar u.2.2 ∧ ((u.1 89).toInt = (fv 89).toInt + nn.toInt) ∧ True) (enM dC dI h ad cA) (aM h ad sz)) 0 0 (aM h ad sz) := by
  refine Met.ofW (cc := cX12_putBack) (maxL := 4) (ret := none) (by decide) rfl ?_
  intro p e s m args below meth c s₁ B hml hv
  obtain ⟨rfl, hsz, hP, hK⟩ := hv
  have hx := B.exec
  have hb := B.bytes
  have hr := B.returns
  have hts := atoms_spec (ws := (.code yX12_putBack cX12_putBack 4 none :: lw_good)) B.pre
  have htg : ∀ w ∈ lw_good, w.before _ s = true := fun w hw => hts w (List.mem_cons_of_mem _ hw)
  have hown : s.vm.findClass RX12 = some m.cls := findClass_of_methodNamed B.named
  have hlocks := B.notSynchronized
  subst hsz
  have hS : va_S (aM h ad s.heap.size) s.heap s.heap [] := va_S.rf
  have hl := lv_entry ([.ref h, .ref (ad 76), .int nn]) (n := 4) (Nat.le_of_ble_eq_true rfl)
  rw [lg_entry_eq]
  generalize (lg_sl ([.ref h, .ref (ad 76), .int nn]) ++ List.replicate (4 - (lg_sl ([.ref h, .ref (ad 76), .int nn])).length) Slot.unset).toArray = ls at hl ⊢
  have hl : lv_has ls 4 [(0, .ref h), (1, .ref (ad 76)), (2, .int nn)] := hl
  refine lv_iconst (v := 0) hx hb dX12_putBack_0 (by decide) ?_
  refine lv_istore_n (lv' := [(3, .int 0), (0, .ref h), (1, .ref (ad 76)), (2, .int nn)]) hx hb dX12_putBack_1 rfl hl (by decide) rfl (fun ls hl => ?_)
  refine my_cut (P := fun R9 a9 Q9 => ∀ (n_8 : Nat) (x_1 : Int32) (fv_2 : Nat → Int32) (ar_4 : Nat → Nat → Int32) (H : Heap) (locs : List Loc) (ls : Array Slot), 20 - x_1.toInt < (n_8 : Int) → (0 ≤ x_1.toInt ∧ x_1.toInt ≤ 20) → rF fv_2 → fM [89] fv fv_2 → rA ar_4 → fA [76] ar ar_4 → ((fv_2 89).toInt = (fv 89).toInt + x_1.toInt) → (x_1.toInt ≤ nn.toInt) → va_P (dC, dI) vwCl (wsM h ad cA fv_2 wd ar_4) H → va_S (aM h ad s.heap.size) s.heap H locs → lv_has ls 4 [(0, .ref h), (1, .ref (ad 76)), (2, .int nn), (3, .int x_1)] → W p l e R9 s m a9 below meth c H locs 0 0 Q9 (F0 m 2 ls [])) ?_ (fun hj_10 => ?_)
  · intro n_8
    induction n_8 with
    | zero => intro x_1 fv_2 ar_4 H locs ls fu_9 i_x_1 hF_fv_2 fr_3 hA_ar_4 fa_5 q_6 q_7; exfalso; omega
    | succ n_8 ih_8 =>
      intro x_1 fv_2 ar_4 H locs ls fu_9 i_x_1 hF_fv_2 fr_3 hA_ar_4 fa_5 q_6 q_7 hP hS hl
      refine lv_iload_n hx hb dX12_putBack_2 rfl (lv_at hl 3 rfl) ?_
      refine lv_iload_n hx hb dX12_putBack_3 rfl (lv_at hl 2 rfl) ?_
      refine lv_icmp_ge (tgt := 35) hx hb dX12_putBack_4 (by decide) (fun c_11 => ?_) (fun c_11 => ?_)
      · skip
        have k_12 := Int32.le_iff_toInt_le.mp c_11
        have z_13 : 0 ≤ (fv_2 89).toInt ∧ (fv_2 89).toInt ≤ 441 := hF_fv_2 89
        exact W.vret hx hb hr (fun t ht hW => ⟨⟨(fv_2, wd, ar_4), rfl, ⟨hF_fv_2, hA_ar_4, (fM_call (fM_rf [89] _) fr_3 (by decide)), (fA_call (fA_rf [76] _) fa_5 (by decide)), (show (fv_2 89).toInt = (fv 89).toInt + nn.toInt from by omega), trivial⟩, ⟨by rw [ht]; exact hP, va_K.moved hW.alike hK⟩⟩, hS.F ht⟩) hS.2.2 dX12_putBack_35
      · skip
        have i_14 : 0 ≤ x_1.toInt ∧ x_1.toInt ≤ 19 := iv_lt1 i_x_1 h_nn (Int32.not_le.mp c_11)
        have i_15 : 1 ≤ nn.toInt ∧ nn.toInt ≤ 20 := iv_lt2 i_x_1 h_nn (Int32.not_le.mp c_11)
        have k_16 := Int32.lt_iff_toInt_lt.mp (Int32.not_le.mp c_11)
        refine lv_aload_n hx hb dX12_putBack_7 rfl (lv_at hl 1 rfl) ?_
        refine lv_iload_n hx hb dX12_putBack_8 rfl (lv_at hl 3 rfl) ?_
        refine lv_aload_n hx hb dX12_putBack_9 rfl (lv_at hl 0 rfl) ?_
        refine gM_88 hx hb htg hown hK hP dX12_putBack_10 ?_
        refine lv_aload_n hx hb dX12_putBack_13 rfl (lv_at hl 0 rfl) ?_
        refine gM_89 hx hb htg hown hK hP dX12_putBack_14 ?_
        have i_17 : 0 ≤ (fv_2 89).toInt ∧ (fv_2 89).toInt ≤ 441 := hF_fv_2 89
        refine lM_88 hx hb hK hP (vp_in_iff.mpr (by omega)) dX12_putBack_17 (fun v_18 ev_18 => ?_)
        refine sM_76 hx hb hK hP hS hd (iv_in i_14 (by decide) (by decide)) dX12_putBack_18 (fun H locs ar_19 ear_19 hP hS => ?_)
        have hA_ar_19 : rA ar_19 := rA_put hA_ar_4 ear_19 (iv_any _)
        refine lv_aload_n hx hb dX12_putBack_19 rfl (lv_at hl 0 rfl) ?_
        refine lv_dup hx hb dX12_putBack_20 rfl ?_
        refine gM_89 hx hb htg hown hK hP dX12_putBack_21 ?_
        refine lv_iconst (v := 1) hx hb dX12_putBack_24 (by decide) ?_
        refine lv_iadd hx hb dX12_putBack_25 ?_
        refine lv_topi (fun v_20 ev_20 => ?_)
        have t_21 : v_20.toInt = (fv_2 89).toInt + 1 ∧ 1 ≤ v_20.toInt ∧ v_20.toInt ≤ 442 := iv_addc ev_20 i_17 (by decide) (by decide) (by decide)
        have i_23 : 0 ≤ v_20.toInt ∧ v_20.toInt ≤ 441 := (by omega)
        refine pM_89 hx hb htg hown hK hP hS hd dX12_putBack_26 (fun H locs fv_24 efv_24 hP hS => ?_)
        have hF_fv_24 : rF fv_24 := rF_put hF_fv_2 efv_24 i_23
        obtain ⟨v_25, ev_25⟩ : ∃ z : Int32, z = x_1 + 1 := ⟨_, rfl⟩
        refine lv_iinc (v := v_25) (lv' := [(3, .int v_25), (0, .ref h), (1, .ref (ad 76)), (2, .int nn)]) hx hb dX12_putBack_29 hl (k := 3) rfl (by rw [ev_25]; rfl) (by decide) rfl (fun ls hl => ?_)
        have t_26 : v_25.toInt = x_1.toInt + 1 ∧ 1 ≤ v_25.toInt ∧ v_25.toInt ≤ 20 := iv_addc ev_25 i_14 (by decide) (by decide) (by decide)
        refine lv_goto (tgt := 2) hx hb dX12_putBack_32 (by decide) ?_
        have z_28 : (fv_24 89).toInt = v_20.toInt := congrArg Int32.toInt ((congrFun efv_24 89))
        have z_29 : 0 ≤ (fv_24 89).toInt ∧ (fv_24 89).toInt ≤ 441 := hF_fv_24 89
        exact ih_8 v_25 fv_24 ar_19 _ _ ls (by omega) (iv_w t_26.2 (by decide) (by decide)) hF_fv_24 (fM_put (fM_call (fM_rf [89] _) fr_3 (by decide)) efv_24 (by decide)) hA_ar_19 (fA_put (fA_call (fA_rf [76] _) fa_5 (by decide)) ear_19 (by decide)) (by omega) (by omega) hP hS (lv_sub hl [1, 2, 3, 0] rfl)
  · skip
    have z_30 : (0 : Int32).toInt = 0 := by decide
    have z_31 : 0 ≤ (fv 89).toInt ∧ (fv 89).toInt ≤ 441 := hF_fv 89
    exact hj_10 21 0 fv ar _ _ ls (by first | decide | omega) (iv_w (⟨by decide, by decide⟩ : (0 : Int) ≤ (0 : Int32).toInt ∧ (0 : Int32).toInt ≤ 0) (by decide) (by decide)) hF_fv (fM_rf [89] _) hA_ar (fA_rf [76] _) (by omega) (by omega) hP hS (lv_sub hl [1, 2, 3, 0] rfl)
set_option maxHeartbeats 4000000 in
set_option maxRecDepth 100000 in
theorem m_keep_78 (l : Launch) (dC : Nat → ClassId) (dI : Nat → Nat → Nat) (sz h : Nat) (ad : Nat → Nat) (cA : Nat → ClassId) (hd : dM h ad) (fv : Nat → Int32) (wd : Int64) (ar : Nat → Nat → Int32) (hF_fv : rF fv) (hA_ar : rA ar) (nn : Int32) (h_nn : 0 ≤ nn.toInt ∧ nn.toInt ≤ 20) (hk : (fv 89).toInt + nn.toInt ≤ 441) : Met l yX12_keep (.code yX12_keep cX12_keep 4 none :: lw_good) ({ frames := 2, cells := 0, slots := 0, locals := 40 }) (va_Pc [.ref h, .ref (ad 78), .int nn] (prM dC dI h ad cA fv wd ar sz)) (va_Qv (fun (u : mS) => rF u.1 ∧ rA u.2.2 ∧ fM [89] fv u.1 ∧ fA [88] ar u.2.2 ∧ ((u.1 89).toInt = (fv 89).toInt + nn.toInt) ∧ True) (enM dC dI h ad cA) (aM h ad sz)) 0 0 (aM h ad sz) := by
  refine Met.ofW (cc := cX12_keep) (maxL := 4) (ret := none) (by decide) rfl ?_
  intro p e s m args below meth c s₁ B hml hv
  obtain ⟨rfl, hsz, hP, hK⟩ := hv
  have hx := B.exec
  have hb := B.bytes
  have hr := B.returns
  have hts := atoms_spec (ws := (.code yX12_keep cX12_keep 4 none :: lw_good)) B.pre
  have htg : ∀ w ∈ lw_good, w.before _ s = true := fun w hw => hts w (List.mem_cons_of_mem _ hw)
  have hown : s.vm.findClass RX12 = some m.cls := findClass_of_methodNamed B.named
  have hlocks := B.notSynchronized
  subst hsz
  have hS : va_S (aM h ad s.heap.size) s.heap s.heap [] := va_S.rf
  have hl := lv_entry ([.ref h, .ref (ad 78), .int nn]) (n := 4) (Nat.le_of_ble_eq_true rfl)
  rw [lg_entry_eq]
  generalize (lg_sl ([.ref h, .ref (ad 78), .int nn]) ++ List.replicate (4 - (lg_sl ([.ref h, .ref (ad 78), .int nn])).length) Slot.unset).toArray = ls at hl ⊢
  have hl : lv_has ls 4 [(0, .ref h), (1, .ref (ad 78)), (2, .int nn)] := hl
  refine lv_iconst (v := 0) hx hb dX12_keep_0 (by decide) ?_
  refine lv_istore_n (lv' := [(3, .int 0), (0, .ref h), (1, .ref (ad 78)), (2, .int nn)]) hx hb dX12_keep_1 rfl hl (by decide) rfl (fun ls hl => ?_)
  refine my_cut (P := fun R9 a9 Q9 => ∀ (n_8 : Nat) (x_1 : Int32) (fv_2 : Nat → Int32) (ar_4 : Nat → Nat → Int32) (H : Heap) (locs : List Loc) (ls : Array Slot), 20 - x_1.toInt < (n_8 : Int) → (0 ≤ x_1.toInt ∧ x_1.toInt ≤ 20) → rF fv_2 → fM [89] fv fv_2 → rA ar_4 → fA [88] ar ar_4 → ((fv_2 89).toInt = (fv 89).toInt + x_1.toInt) → (x_1.toInt ≤ nn.toInt) → va_P (dC, dI) vwCl (wsM h ad cA fv_2 wd ar_4) H → va_S (aM h ad s.heap.size) s.heap H locs → lv_has ls 4 [(0, .ref h), (1, .ref (ad 78)), (2, .int nn), (3, .int x_1)] → W p l e R9 s m a9 below meth c H locs 0 0 Q9 (F0 m 2 ls [])) ?_ (fun hj_10 => ?_)
  · intro n_8
    induction n_8 with
    | zero => intro x_1 fv_2 ar_4 H locs ls fu_9 i_x_1 hF_fv_2 fr_3 hA_ar_4 fa_5 q_6 q_7; exfalso; omega
    | succ n_8 ih_8 =>
      intro x_1 fv_2 ar_4 H locs ls fu_9 i_x_1 hF_fv_2 fr_3 hA_ar_4 fa_5 q_6 q_7 hP hS hl
      refine lv_iload_n hx hb dX12_keep_2 rfl (lv_at hl 3 rfl) ?_
      refine lv_iload_n hx hb dX12_keep_3 rfl (lv_at hl 2 rfl) ?_
      refine lv_icmp_ge (tgt := 35) hx hb dX12_keep_4 (by decide) (fun c_11 => ?_) (fun c_11 => ?_)
      · skip
        have k_12 := Int32.le_iff_toInt_le.mp c_11
        have z_13 : 0 ≤ (fv_2 89).toInt ∧ (fv_2 89).toInt ≤ 441 := hF_fv_2 89
        exact W.vret hx hb hr (fun t ht hW => ⟨⟨(fv_2, wd, ar_4), rfl, ⟨hF_fv_2, hA_ar_4, (fM_call (fM_rf [89] _) fr_3 (by decide)), (fA_call (fA_rf [88] _) fa_5 (by decide)), (show (fv_2 89).toInt = (fv 89).toInt + nn.toInt from by omega), trivial⟩, ⟨by rw [ht]; exact hP, va_K.moved hW.alike hK⟩⟩, hS.F ht⟩) hS.2.2 dX12_keep_35
      · skip
        have i_14 : 0 ≤ x_1.toInt ∧ x_1.toInt ≤ 19 := iv_lt1 i_x_1 h_nn (Int32.not_le.mp c_11)
        have i_15 : 1 ≤ nn.toInt ∧ nn.toInt ≤ 20 := iv_lt2 i_x_1 h_nn (Int32.not_le.mp c_11)
        have k_16 := Int32.lt_iff_toInt_lt.mp (Int32.not_le.mp c_11)
        refine lv_aload_n hx hb dX12_keep_7 rfl (lv_at hl 0 rfl) ?_
        refine gM_88 hx hb htg hown hK hP dX12_keep_8 ?_
        refine lv_aload_n hx hb dX12_keep_11 rfl (lv_at hl 0 rfl) ?_
        refine gM_89 hx hb htg hown hK hP dX12_keep_12 ?_
        have i_17 : 0 ≤ (fv_2 89).toInt ∧ (fv_2 89).toInt ≤ 441 := hF_fv_2 89
        refine lv_aload_n hx hb dX12_keep_15 rfl (lv_at hl 1 rfl) ?_
        refine lv_iload_n hx hb dX12_keep_16 rfl (lv_at hl 3 rfl) ?_
        refine lM_78 hx hb hK hP (iv_in i_14 (by decide) (by decide)) dX12_keep_17 (fun v_18 ev_18 => ?_)
        refine sM_88 hx hb hK hP hS hd (vp_in_iff.mpr (by omega)) dX12_keep_18 (fun H locs ar_19 ear_19 hP hS => ?_)
        have hA_ar_19 : rA ar_19 := rA_put hA_ar_4 ear_19 (iv_any _)
        refine lv_aload_n hx hb dX12_keep_19 rfl (lv_at hl 0 rfl) ?_
        refine lv_dup hx hb dX12_keep_20 rfl ?_
        refine gM_89 hx hb htg hown hK hP dX12_keep_21 ?_
        refine lv_iconst (v := 1) hx hb dX12_keep_24 (by decide) ?_
        refine lv_iadd hx hb dX12_keep_25 ?_
        refine lv_topi (fun v_20 ev_20 => ?_)
        have t_21 : v_20.toInt = (fv_2 89).toInt + 1 ∧ 1 ≤ v_20.toInt ∧ v_20.toInt ≤ 442 := iv_addc ev_20 i_17 (by decide) (by decide) (by decide)
        have i_23 : 0 ≤ v_20.toInt ∧ v_20.toInt ≤ 441 := (by omega)
        refine pM_89 hx hb htg hown hK hP hS hd dX12_keep_26 (fun H locs fv_24 efv_24 hP hS => ?_)
        have hF_fv_24 : rF fv_24 := rF_put hF_fv_2 efv_24 i_23
        obtain ⟨v_25, ev_25⟩ : ∃ z : Int32, z = x_1 + 1 := ⟨_, rfl⟩
        refine lv_iinc (v := v_25) (lv' := [(3, .int v_25), (0, .ref h), (1, .ref (ad 78)), (2, .int nn)]) hx hb dX12_keep_29 hl (k := 3) rfl (by rw [ev_25]; rfl) (by decide) rfl (fun ls hl => ?_)
        have t_26 : v_25.toInt = x_1.toInt + 1 ∧ 1 ≤ v_25.toInt ∧ v_25.toInt ≤ 20 := iv_addc ev_25 i_14 (by decide) (by decide) (by decide)
        refine lv_goto (tgt := 2) hx hb dX12_keep_32 (by decide) ?_
        have z_28 : (fv_24 89).toInt = v_20.toInt := congrArg Int32.toInt ((congrFun efv_24 89))
        have z_29 : 0 ≤ (fv_24 89).toInt ∧ (fv_24 89).toInt ≤ 441 := hF_fv_24 89
        exact ih_8 v_25 fv_24 ar_19 _ _ ls (by omega) (iv_w t_26.2 (by decide) (by decide)) hF_fv_24 (fM_put (fM_call (fM_rf [89] _) fr_3 (by decide)) efv_24 (by decide)) hA_ar_19 (fA_put (fA_call (fA_rf [88] _) fa_5 (by decide)) ear_19 (by decide)) (by omega) (by omega) hP hS (lv_sub hl [1, 2, 3, 0] rfl)
  · skip
    have z_30 : (0 : Int32).toInt = 0 := by decide
    have z_31 : 0 ≤ (fv 89).toInt ∧ (fv 89).toInt ≤ 441 := hF_fv 89
    exact hj_10 21 0 fv ar _ _ ls (by first | decide | omega) (iv_w (⟨by decide, by decide⟩ : (0 : Int) ≤ (0 : Int32).toInt ∧ (0 : Int32).toInt ≤ 0) (by decide) (by decide)) hF_fv (fM_rf [89] _) hA_ar (fA_rf [88] _) (by omega) (by omega) hP hS (lv_sub hl [1, 2, 3, 0] rfl)
set_option maxHeartbeats 4000000 in
set_option maxRecDepth 100000 in
theorem m_putBack_78 (l : Launch) (dC : Nat → ClassId) (dI : Nat → Nat → Nat) (sz h : Nat) (ad : Nat → Nat) (cA : Nat → ClassId) (hd : dM h ad) (fv : Nat → Int32) (wd : Int64) (ar : Nat → Nat → Int32) (hF_fv : rF fv) (hA_ar : rA ar) (nn : Int32) (h_nn : 0 ≤ nn.toInt ∧ nn.toInt ≤ 20) (hk : (fv 89).toInt + nn.toInt ≤ 441) : Met l yX12_putBack (.code yX12_putBack cX12_putBack 4 none :: lw_good) ({ frames := 2, cells := 0, slots := 0, locals := 40 }) (va_Pc [.ref h, .ref (ad 78), .int nn] (prM dC dI h ad cA fv wd ar sz)) (va_Qv (fun (u : mS) => rF u.1 ∧ rA u.2.2 ∧ fM [89] fv u.1 ∧ fA [78] ar u.2.2 ∧ ((u.1 89).toInt = (fv 89).toInt + nn.toInt) ∧ True) (enM dC dI h ad cA) (aM h ad sz)) 0 0 (aM h ad sz) := by
  refine Met.ofW (cc := cX12_putBack) (maxL := 4) (ret := none) (by decide) rfl ?_
  intro p e s m args below meth c s₁ B hml hv
  obtain ⟨rfl, hsz, hP, hK⟩ := hv
  have hx := B.exec
  have hb := B.bytes
  have hr := B.returns
  have hts := atoms_spec (ws := (.code yX12_putBack cX12_putBack 4 none :: lw_good)) B.pre
  have htg : ∀ w ∈ lw_good, w.before _ s = true := fun w hw => hts w (List.mem_cons_of_mem _ hw)
  have hown : s.vm.findClass RX12 = some m.cls := findClass_of_methodNamed B.named
  have hlocks := B.notSynchronized
  subst hsz
  have hS : va_S (aM h ad s.heap.size) s.heap s.heap [] := va_S.rf
  have hl := lv_entry ([.ref h, .ref (ad 78), .int nn]) (n := 4) (Nat.le_of_ble_eq_true rfl)
  rw [lg_entry_eq]
  generalize (lg_sl ([.ref h, .ref (ad 78), .int nn]) ++ List.replicate (4 - (lg_sl ([.ref h, .ref (ad 78), .int nn])).length) Slot.unset).toArray = ls at hl ⊢
  have hl : lv_has ls 4 [(0, .ref h), (1, .ref (ad 78)), (2, .int nn)] := hl
  refine lv_iconst (v := 0) hx hb dX12_putBack_0 (by decide) ?_
  refine lv_istore_n (lv' := [(3, .int 0), (0, .ref h), (1, .ref (ad 78)), (2, .int nn)]) hx hb dX12_putBack_1 rfl hl (by decide) rfl (fun ls hl => ?_)
  refine my_cut (P := fun R9 a9 Q9 => ∀ (n_8 : Nat) (x_1 : Int32) (fv_2 : Nat → Int32) (ar_4 : Nat → Nat → Int32) (H : Heap) (locs : List Loc) (ls : Array Slot), 20 - x_1.toInt < (n_8 : Int) → (0 ≤ x_1.toInt ∧ x_1.toInt ≤ 20) → rF fv_2 → fM [89] fv fv_2 → rA ar_4 → fA [78] ar ar_4 → ((fv_2 89).toInt = (fv 89).toInt + x_1.toInt) → (x_1.toInt ≤ nn.toInt) → va_P (dC, dI) vwCl (wsM h ad cA fv_2 wd ar_4) H → va_S (aM h ad s.heap.size) s.heap H locs → lv_has ls 4 [(0, .ref h), (1, .ref (ad 78)), (2, .int nn), (3, .int x_1)] → W p l e R9 s m a9 below meth c H locs 0 0 Q9 (F0 m 2 ls [])) ?_ (fun hj_10 => ?_)
  · intro n_8
    induction n_8 with
    | zero => intro x_1 fv_2 ar_4 H locs ls fu_9 i_x_1 hF_fv_2 fr_3 hA_ar_4 fa_5 q_6 q_7; exfalso; omega
    | succ n_8 ih_8 =>
      intro x_1 fv_2 ar_4 H locs ls fu_9 i_x_1 hF_fv_2 fr_3 hA_ar_4 fa_5 q_6 q_7 hP hS hl
      refine lv_iload_n hx hb dX12_putBack_2 rfl (lv_at hl 3 rfl) ?_
      refine lv_iload_n hx hb dX12_putBack_3 rfl (lv_at hl 2 rfl) ?_
      refine lv_icmp_ge (tgt := 35) hx hb dX12_putBack_4 (by decide) (fun c_11 => ?_) (fun c_11 => ?_)
      · skip
        have k_12 := Int32.le_iff_toInt_le.mp c_11
        have z_13 : 0 ≤ (fv_2 89).toInt ∧ (fv_2 89).toInt ≤ 441 := hF_fv_2 89
        exact W.vret hx hb hr (fun t ht hW => ⟨⟨(fv_2, wd, ar_4), rfl, ⟨hF_fv_2, hA_ar_4, (fM_call (fM_rf [89] _) fr_3 (by decide)), (fA_call (fA_rf [78] _) fa_5 (by decide)), (show (fv_2 89).toInt = (fv 89).toInt + nn.toInt from by omega), trivial⟩, ⟨by rw [ht]; exact hP, va_K.moved hW.alike hK⟩⟩, hS.F ht⟩) hS.2.2 dX12_putBack_35
      · skip
        have i_14 : 0 ≤ x_1.toInt ∧ x_1.toInt ≤ 19 := iv_lt1 i_x_1 h_nn (Int32.not_le.mp c_11)
        have i_15 : 1 ≤ nn.toInt ∧ nn.toInt ≤ 20 := iv_lt2 i_x_1 h_nn (Int32.not_le.mp c_11)
        have k_16 := Int32.lt_iff_toInt_lt.mp (Int32.not_le.mp c_11)
        refine lv_aload_n hx hb dX12_putBack_7 rfl (lv_at hl 1 rfl) ?_
        refine lv_iload_n hx hb dX12_putBack_8 rfl (lv_at hl 3 rfl) ?_
        refine lv_aload_n hx hb dX12_putBack_9 rfl (lv_at hl 0 rfl) ?_
        refine gM_88 hx hb htg hown hK hP dX12_putBack_10 ?_
        refine lv_aload_n hx hb dX12_putBack_13 rfl (lv_at hl 0 rfl) ?_
        refine gM_89 hx hb htg hown hK hP dX12_putBack_14 ?_
        have i_17 : 0 ≤ (fv_2 89).toInt ∧ (fv_2 89).toInt ≤ 441 := hF_fv_2 89
        refine lM_88 hx hb hK hP (vp_in_iff.mpr (by omega)) dX12_putBack_17 (fun v_18 ev_18 => ?_)
        refine sM_78 hx hb hK hP hS hd (iv_in i_14 (by decide) (by decide)) dX12_putBack_18 (fun H locs ar_19 ear_19 hP hS => ?_)
        have hA_ar_19 : rA ar_19 := rA_put hA_ar_4 ear_19 (iv_any _)
        refine lv_aload_n hx hb dX12_putBack_19 rfl (lv_at hl 0 rfl) ?_
        refine lv_dup hx hb dX12_putBack_20 rfl ?_
        refine gM_89 hx hb htg hown hK hP dX12_putBack_21 ?_
        refine lv_iconst (v := 1) hx hb dX12_putBack_24 (by decide) ?_
        refine lv_iadd hx hb dX12_putBack_25 ?_
        refine lv_topi (fun v_20 ev_20 => ?_)
        have t_21 : v_20.toInt = (fv_2 89).toInt + 1 ∧ 1 ≤ v_20.toInt ∧ v_20.toInt ≤ 442 := iv_addc ev_20 i_17 (by decide) (by decide) (by decide)
        have i_23 : 0 ≤ v_20.toInt ∧ v_20.toInt ≤ 441 := (by omega)
        refine pM_89 hx hb htg hown hK hP hS hd dX12_putBack_26 (fun H locs fv_24 efv_24 hP hS => ?_)
        have hF_fv_24 : rF fv_24 := rF_put hF_fv_2 efv_24 i_23
        obtain ⟨v_25, ev_25⟩ : ∃ z : Int32, z = x_1 + 1 := ⟨_, rfl⟩
        refine lv_iinc (v := v_25) (lv' := [(3, .int v_25), (0, .ref h), (1, .ref (ad 78)), (2, .int nn)]) hx hb dX12_putBack_29 hl (k := 3) rfl (by rw [ev_25]; rfl) (by decide) rfl (fun ls hl => ?_)
        have t_26 : v_25.toInt = x_1.toInt + 1 ∧ 1 ≤ v_25.toInt ∧ v_25.toInt ≤ 20 := iv_addc ev_25 i_14 (by decide) (by decide) (by decide)
        refine lv_goto (tgt := 2) hx hb dX12_putBack_32 (by decide) ?_
        have z_28 : (fv_24 89).toInt = v_20.toInt := congrArg Int32.toInt ((congrFun efv_24 89))
        have z_29 : 0 ≤ (fv_24 89).toInt ∧ (fv_24 89).toInt ≤ 441 := hF_fv_24 89
        exact ih_8 v_25 fv_24 ar_19 _ _ ls (by omega) (iv_w t_26.2 (by decide) (by decide)) hF_fv_24 (fM_put (fM_call (fM_rf [89] _) fr_3 (by decide)) efv_24 (by decide)) hA_ar_19 (fA_put (fA_call (fA_rf [78] _) fa_5 (by decide)) ear_19 (by decide)) (by omega) (by omega) hP hS (lv_sub hl [1, 2, 3, 0] rfl)
  · skip
    have z_30 : (0 : Int32).toInt = 0 := by decide
    have z_31 : 0 ≤ (fv 89).toInt ∧ (fv 89).toInt ≤ 441 := hF_fv 89
    exact hj_10 21 0 fv ar _ _ ls (by first | decide | omega) (iv_w (⟨by decide, by decide⟩ : (0 : Int) ≤ (0 : Int32).toInt ∧ (0 : Int32).toInt ≤ 0) (by decide) (by decide)) hF_fv (fM_rf [89] _) hA_ar (fA_rf [78] _) (by omega) (by omega) hP hS (lv_sub hl [1, 2, 3, 0] rfl)
set_option maxHeartbeats 4000000 in
set_option maxRecDepth 100000 in
theorem m_keep_79 (l : Launch) (dC : Nat → ClassId) (dI : Nat → Nat → Nat) (sz h : Nat) (ad : Nat → Nat) (cA : Nat → ClassId) (hd : dM h ad) (fv : Nat → Int32) (wd : Int64) (ar : Nat → Nat → Int32) (hF_fv : rF fv) (hA_ar : rA ar) (nn : Int32) (h_nn : 0 ≤ nn.toInt ∧ nn.toInt ≤ 20) (hk : (fv 89).toInt + nn.toInt ≤ 441) : Met l yX12_keep (.code yX12_keep cX12_keep 4 none :: lw_good) ({ frames := 2, cells := 0, slots := 0, locals := 40 }) (va_Pc [.ref h, .ref (ad 79), .int nn] (prM dC dI h ad cA fv wd ar sz)) (va_Qv (fun (u : mS) => rF u.1 ∧ rA u.2.2 ∧ fM [89] fv u.1 ∧ fA [88] ar u.2.2 ∧ ((u.1 89).toInt = (fv 89).toInt + nn.toInt) ∧ True) (enM dC dI h ad cA) (aM h ad sz)) 0 0 (aM h ad sz) := by
  refine Met.ofW (cc := cX12_keep) (maxL := 4) (ret := none) (by decide) rfl ?_
  intro p e s m args below meth c s₁ B hml hv
  obtain ⟨rfl, hsz, hP, hK⟩ := hv
  have hx := B.exec
  have hb := B.bytes
  have hr := B.returns
  have hts := atoms_spec (ws := (.code yX12_keep cX12_keep 4 none :: lw_good)) B.pre
  have htg : ∀ w ∈ lw_good, w.before _ s = true := fun w hw => hts w (List.mem_cons_of_mem _ hw)
  have hown : s.vm.findClass RX12 = some m.cls := findClass_of_methodNamed B.named
  have hlocks := B.notSynchronized
  subst hsz
  have hS : va_S (aM h ad s.heap.size) s.heap s.heap [] := va_S.rf
  have hl := lv_entry ([.ref h, .ref (ad 79), .int nn]) (n := 4) (Nat.le_of_ble_eq_true rfl)
  rw [lg_entry_eq]
  generalize (lg_sl ([.ref h, .ref (ad 79), .int nn]) ++ List.replicate (4 - (lg_sl ([.ref h, .ref (ad 79), .int nn])).length) Slot.unset).toArray = ls at hl ⊢
  have hl : lv_has ls 4 [(0, .ref h), (1, .ref (ad 79)), (2, .int nn)] := hl
  refine lv_iconst (v := 0) hx hb dX12_keep_0 (by decide) ?_
  refine lv_istore_n (lv' := [(3, .int 0), (0, .ref h), (1, .ref (ad 79)), (2, .int nn)]) hx hb dX12_keep_1 rfl hl (by decide) rfl (fun ls hl => ?_)
  refine my_cut (P := fun R9 a9 Q9 => ∀ (n_8 : Nat) (x_1 : Int32) (fv_2 : Nat → Int32) (ar_4 : Nat → Nat → Int32) (H : Heap) (locs : List Loc) (ls : Array Slot), 20 - x_1.toInt < (n_8 : Int) → (0 ≤ x_1.toInt ∧ x_1.toInt ≤ 20) → rF fv_2 → fM [89] fv fv_2 → rA ar_4 → fA [88] ar ar_4 → ((fv_2 89).toInt = (fv 89).toInt + x_1.toInt) → (x_1.toInt ≤ nn.toInt) → va_P (dC, dI) vwCl (wsM h ad cA fv_2 wd ar_4) H → va_S (aM h ad s.heap.size) s.heap H locs → lv_has ls 4 [(0, .ref h), (1, .ref (ad 79)), (2, .int nn), (3, .int x_1)] → W p l e R9 s m a9 below meth c H locs 0 0 Q9 (F0 m 2 ls [])) ?_ (fun hj_10 => ?_)
  · intro n_8
    induction n_8 with
    | zero => intro x_1 fv_2 ar_4 H locs ls fu_9 i_x_1 hF_fv_2 fr_3 hA_ar_4 fa_5 q_6 q_7; exfalso; omega
    | succ n_8 ih_8 =>
      intro x_1 fv_2 ar_4 H locs ls fu_9 i_x_1 hF_fv_2 fr_3 hA_ar_4 fa_5 q_6 q_7 hP hS hl
      refine lv_iload_n hx hb dX12_keep_2 rfl (lv_at hl 3 rfl) ?_
      refine lv_iload_n hx hb dX12_keep_3 rfl (lv_at hl 2 rfl) ?_
      refine lv_icmp_ge (tgt := 35) hx hb dX12_keep_4 (by decide) (fun c_11 => ?_) (fun c_11 => ?_)
      · skip
        have k_12 := Int32.le_iff_toInt_le.mp c_11
        have z_13 : 0 ≤ (fv_2 89).toInt ∧ (fv_2 89).toInt ≤ 441 := hF_fv_2 89
        exact W.vret hx hb hr (fun t ht hW => ⟨⟨(fv_2, wd, ar_4), rfl, ⟨hF_fv_2, hA_ar_4, (fM_call (fM_rf [89] _) fr_3 (by decide)), (fA_call (fA_rf [88] _) fa_5 (by decide)), (show (fv_2 89).toInt = (fv 89).toInt + nn.toInt from by omega), trivial⟩, ⟨by rw [ht]; exact hP, va_K.moved hW.alike hK⟩⟩, hS.F ht⟩) hS.2.2 dX12_keep_35
      · skip
        have i_14 : 0 ≤ x_1.toInt ∧ x_1.toInt ≤ 19 := iv_lt1 i_x_1 h_nn (Int32.not_le.mp c_11)
        have i_15 : 1 ≤ nn.toInt ∧ nn.toInt ≤ 20 := iv_lt2 i_x_1 h_nn (Int32.not_le.mp c_11)
        have k_16 := Int32.lt_iff_toInt_lt.mp (Int32.not_le.mp c_11)
        refine lv_aload_n hx hb dX12_keep_7 rfl (lv_at hl 0 rfl) ?_
        refine gM_88 hx hb htg hown hK hP dX12_keep_8 ?_
        refine lv_aload_n hx hb dX12_keep_11 rfl (lv_at hl 0 rfl) ?_
        refine gM_89 hx hb htg hown hK hP dX12_keep_12 ?_
        have i_17 : 0 ≤ (fv_2 89).toInt ∧ (fv_2 89).toInt ≤ 441 := hF_fv_2 89
        refine lv_aload_n hx hb dX12_keep_15 rfl (lv_at hl 1 rfl) ?_
        refine lv_iload_n hx hb dX12_keep_16 rfl (lv_at hl 3 rfl) ?_
        refine lM_79 hx hb hK hP (iv_in i_14 (by decide) (by decide)) dX12_keep_17 (fun v_18 ev_18 => ?_)
        refine sM_88 hx hb hK hP hS hd (vp_in_iff.mpr (by omega)) dX12_keep_18 (fun H locs ar_19 ear_19 hP hS => ?_)
        have hA_ar_19 : rA ar_19 := rA_put hA_ar_4 ear_19 (iv_any _)
        refine lv_aload_n hx hb dX12_keep_19 rfl (lv_at hl 0 rfl) ?_
        refine lv_dup hx hb dX12_keep_20 rfl ?_
        refine gM_89 hx hb htg hown hK hP dX12_keep_21 ?_
        refine lv_iconst (v := 1) hx hb dX12_keep_24 (by decide) ?_
        refine lv_iadd hx hb dX12_keep_25 ?_
        refine lv_topi (fun v_20 ev_20 => ?_)
        have t_21 : v_20.toInt = (fv_2 89).toInt + 1 ∧ 1 ≤ v_20.toInt ∧ v_20.toInt ≤ 442 := iv_addc ev_20 i_17 (by decide) (by decide) (by decide)
        have i_23 : 0 ≤ v_20.toInt ∧ v_20.toInt ≤ 441 := (by omega)
        refine pM_89 hx hb htg hown hK hP hS hd dX12_keep_26 (fun H locs fv_24 efv_24 hP hS => ?_)
        have hF_fv_24 : rF fv_24 := rF_put hF_fv_2 efv_24 i_23
        obtain ⟨v_25, ev_25⟩ : ∃ z : Int32, z = x_1 + 1 := ⟨_, rfl⟩
        refine lv_iinc (v := v_25) (lv' := [(3, .int v_25), (0, .ref h), (1, .ref (ad 79)), (2, .int nn)]) hx hb dX12_keep_29 hl (k := 3) rfl (by rw [ev_25]; rfl) (by decide) rfl (fun ls hl => ?_)
        have t_26 : v_25.toInt = x_1.toInt + 1 ∧ 1 ≤ v_25.toInt ∧ v_25.toInt ≤ 20 := iv_addc ev_25 i_14 (by decide) (by decide) (by decide)
        refine lv_goto (tgt := 2) hx hb dX12_keep_32 (by decide) ?_
        have z_28 : (fv_24 89).toInt = v_20.toInt := congrArg Int32.toInt ((congrFun efv_24 89))
        have z_29 : 0 ≤ (fv_24 89).toInt ∧ (fv_24 89).toInt ≤ 441 := hF_fv_24 89
        exact ih_8 v_25 fv_24 ar_19 _ _ ls (by omega) (iv_w t_26.2 (by decide) (by decide)) hF_fv_24 (fM_put (fM_call (fM_rf [89] _) fr_3 (by decide)) efv_24 (by decide)) hA_ar_19 (fA_put (fA_call (fA_rf [88] _) fa_5 (by decide)) ear_19 (by decide)) (by omega) (by omega) hP hS (lv_sub hl [1, 2, 3, 0] rfl)
  · skip
    have z_30 : (0 : Int32).toInt = 0 := by decide
    have z_31 : 0 ≤ (fv 89).toInt ∧ (fv 89).toInt ≤ 441 := hF_fv 89
    exact hj_10 21 0 fv ar _ _ ls (by first | decide | omega) (iv_w (⟨by decide, by decide⟩ : (0 : Int) ≤ (0 : Int32).toInt ∧ (0 : Int32).toInt ≤ 0) (by decide) (by decide)) hF_fv (fM_rf [89] _) hA_ar (fA_rf [88] _) (by omega) (by omega) hP hS (lv_sub hl [1, 2, 3, 0] rfl)
set_option maxHeartbeats 4000000 in
set_option maxRecDepth 100000 in
theorem m_putBack_79 (l : Launch) (dC : Nat → ClassId) (dI : Nat → Nat → Nat) (sz h : Nat) (ad : Nat → Nat) (cA : Nat → ClassId) (hd : dM h ad) (fv : Nat → Int32) (wd : Int64) (ar : Nat → Nat → Int32) (hF_fv : rF fv) (hA_ar : rA ar) (nn : Int32) (h_nn : 0 ≤ nn.toInt ∧ nn.toInt ≤ 20) (hk : (fv 89).toInt + nn.toInt ≤ 441) : Met l yX12_putBack (.code yX12_putBack cX12_putBack 4 none :: lw_good) ({ frames := 2, cells := 0, slots := 0, locals := 40 }) (va_Pc [.ref h, .ref (ad 79), .int nn] (prM dC dI h ad cA fv wd ar sz)) (va_Qv (fun (u : mS) => rF u.1 ∧ rA u.2.2 ∧ fM [89] fv u.1 ∧ fA [79] ar u.2.2 ∧ ((u.1 89).toInt = (fv 89).toInt + nn.toInt) ∧ True) (enM dC dI h ad cA) (aM h ad sz)) 0 0 (aM h ad sz) := by
  refine Met.ofW (cc := cX12_putBack) (maxL := 4) (ret := none) (by decide) rfl ?_
  intro p e s m args below meth c s₁ B hml hv
  obtain ⟨rfl, hsz, hP, hK⟩ := hv
  have hx := B.exec
  have hb := B.bytes
  have hr := B.returns
  have hts := atoms_spec (ws := (.code yX12_putBack cX12_putBack 4 none :: lw_good)) B.pre
  have htg : ∀ w ∈ lw_good, w.before _ s = true := fun w hw => hts w (List.mem_cons_of_mem _ hw)
  have hown : s.vm.findClass RX12 = some m.cls := findClass_of_methodNamed B.named
  have hlocks := B.notSynchronized
  subst hsz
  have hS : va_S (aM h ad s.heap.size) s.heap s.heap [] := va_S.rf
  have hl := lv_entry ([.ref h, .ref (ad 79), .int nn]) (n := 4) (Nat.le_of_ble_eq_true rfl)
  rw [lg_entry_eq]
  generalize (lg_sl ([.ref h, .ref (ad 79), .int nn]) ++ List.replicate (4 - (lg_sl ([.ref h, .ref (ad 79), .int nn])).length) Slot.unset).toArray = ls at hl ⊢
  have hl : lv_has ls 4 [(0, .ref h), (1, .ref (ad 79)), (2, .int nn)] := hl
  refine lv_iconst (v := 0) hx hb dX12_putBack_0 (by decide) ?_
  refine lv_istore_n (lv' := [(3, .int 0), (0, .ref h), (1, .ref (ad 79)), (2, .int nn)]) hx hb dX12_putBack_1 rfl hl (by decide) rfl (fun ls hl => ?_)
  refine my_cut (P := fun R9 a9 Q9 => ∀ (n_8 : Nat) (x_1 : Int32) (fv_2 : Nat → Int32) (ar_4 : Nat → Nat → Int32) (H : Heap) (locs : List Loc) (ls : Array Slot), 20 - x_1.toInt < (n_8 : Int) → (0 ≤ x_1.toInt ∧ x_1.toInt ≤ 20) → rF fv_2 → fM [89] fv fv_2 → rA ar_4 → fA [79] ar ar_4 → ((fv_2 89).toInt = (fv 89).toInt + x_1.toInt) → (x_1.toInt ≤ nn.toInt) → va_P (dC, dI) vwCl (wsM h ad cA fv_2 wd ar_4) H → va_S (aM h ad s.heap.size) s.heap H locs → lv_has ls 4 [(0, .ref h), (1, .ref (ad 79)), (2, .int nn), (3, .int x_1)] → W p l e R9 s m a9 below meth c H locs 0 0 Q9 (F0 m 2 ls [])) ?_ (fun hj_10 => ?_)
  · intro n_8
    induction n_8 with
    | zero => intro x_1 fv_2 ar_4 H locs ls fu_9 i_x_1 hF_fv_2 fr_3 hA_ar_4 fa_5 q_6 q_7; exfalso; omega
    | succ n_8 ih_8 =>
      intro x_1 fv_2 ar_4 H locs ls fu_9 i_x_1 hF_fv_2 fr_3 hA_ar_4 fa_5 q_6 q_7 hP hS hl
      refine lv_iload_n hx hb dX12_putBack_2 rfl (lv_at hl 3 rfl) ?_
      refine lv_iload_n hx hb dX12_putBack_3 rfl (lv_at hl 2 rfl) ?_
      refine lv_icmp_ge (tgt := 35) hx hb dX12_putBack_4 (by decide) (fun c_11 => ?_) (fun c_11 => ?_)
      · skip
        have k_12 := Int32.le_iff_toInt_le.mp c_11
        have z_13 : 0 ≤ (fv_2 89).toInt ∧ (fv_2 89).toInt ≤ 441 := hF_fv_2 89
        exact W.vret hx hb hr (fun t ht hW => ⟨⟨(fv_2, wd, ar_4), rfl, ⟨hF_fv_2, hA_ar_4, (fM_call (fM_rf [89] _) fr_3 (by decide)), (fA_call (fA_rf [79] _) fa_5 (by decide)), (show (fv_2 89).toInt = (fv 89).toInt + nn.toInt from by omega), trivial⟩, ⟨by rw [ht]; exact hP, va_K.moved hW.alike hK⟩⟩, hS.F ht⟩) hS.2.2 dX12_putBack_35
      · skip
        have i_14 : 0 ≤ x_1.toInt ∧ x_1.toInt ≤ 19 := iv_lt1 i_x_1 h_nn (Int32.not_le.mp c_11)
        have i_15 : 1 ≤ nn.toInt ∧ nn.toInt ≤ 20 := iv_lt2 i_x_1 h_nn (Int32.not_le.mp c_11)
        have k_16 := Int32.lt_iff_toInt_lt.mp (Int32.not_le.mp c_11)
        refine lv_aload_n hx hb dX12_putBack_7 rfl (lv_at hl 1 rfl) ?_
        refine lv_iload_n hx hb dX12_putBack_8 rfl (lv_at hl 3 rfl) ?_
        refine lv_aload_n hx hb dX12_putBack_9 rfl (lv_at hl 0 rfl) ?_
        refine gM_88 hx hb htg hown hK hP dX12_putBack_10 ?_
        refine lv_aload_n hx hb dX12_putBack_13 rfl (lv_at hl 0 rfl) ?_
        refine gM_89 hx hb htg hown hK hP dX12_putBack_14 ?_
        have i_17 : 0 ≤ (fv_2 89).toInt ∧ (fv_2 89).toInt ≤ 441 := hF_fv_2 89
        refine lM_88 hx hb hK hP (vp_in_iff.mpr (by omega)) dX12_putBack_17 (fun v_18 ev_18 => ?_)
        refine sM_79 hx hb hK hP hS hd (iv_in i_14 (by decide) (by decide)) dX12_putBack_18 (fun H locs ar_19 ear_19 hP hS => ?_)
        have hA_ar_19 : rA ar_19 := rA_put hA_ar_4 ear_19 (iv_any _)
        refine lv_aload_n hx hb dX12_putBack_19 rfl (lv_at hl 0 rfl) ?_
        refine lv_dup hx hb dX12_putBack_20 rfl ?_
        refine gM_89 hx hb htg hown hK hP dX12_putBack_21 ?_
        refine lv_iconst (v := 1) hx hb dX12_putBack_24 (by decide) ?_
        refine lv_iadd hx hb dX12_putBack_25 ?_
        refine lv_topi (fun v_20 ev_20 => ?_)
        have t_21 : v_20.toInt = (fv_2 89).toInt + 1 ∧ 1 ≤ v_20.toInt ∧ v_20.toInt ≤ 442 := iv_addc ev_20 i_17 (by decide) (by decide) (by decide)
        have i_23 : 0 ≤ v_20.toInt ∧ v_20.toInt ≤ 441 := (by omega)
        refine pM_89 hx hb htg hown hK hP hS hd dX12_putBack_26 (fun H locs fv_24 efv_24 hP hS => ?_)
        have hF_fv_24 : rF fv_24 := rF_put hF_fv_2 efv_24 i_23
        obtain ⟨v_25, ev_25⟩ : ∃ z : Int32, z = x_1 + 1 := ⟨_, rfl⟩
        refine lv_iinc (v := v_25) (lv' := [(3, .int v_25), (0, .ref h), (1, .ref (ad 79)), (2, .int nn)]) hx hb dX12_putBack_29 hl (k := 3) rfl (by rw [ev_25]; rfl) (by decide) rfl (fun ls hl => ?_)
        have t_26 : v_25.toInt = x_1.toInt + 1 ∧ 1 ≤ v_25.toInt ∧ v_25.toInt ≤ 20 := iv_addc ev_25 i_14 (by decide) (by decide) (by decide)
        refine lv_goto (tgt := 2) hx hb dX12_putBack_32 (by decide) ?_
        have z_28 : (fv_24 89).toInt = v_20.toInt := congrArg Int32.toInt ((congrFun efv_24 89))
        have z_29 : 0 ≤ (fv_24 89).toInt ∧ (fv_24 89).toInt ≤ 441 := hF_fv_24 89
        exact ih_8 v_25 fv_24 ar_19 _ _ ls (by omega) (iv_w t_26.2 (by decide) (by decide)) hF_fv_24 (fM_put (fM_call (fM_rf [89] _) fr_3 (by decide)) efv_24 (by decide)) hA_ar_19 (fA_put (fA_call (fA_rf [79] _) fa_5 (by decide)) ear_19 (by decide)) (by omega) (by omega) hP hS (lv_sub hl [1, 2, 3, 0] rfl)
  · skip
    have z_30 : (0 : Int32).toInt = 0 := by decide
    have z_31 : 0 ≤ (fv 89).toInt ∧ (fv 89).toInt ≤ 441 := hF_fv 89
    exact hj_10 21 0 fv ar _ _ ls (by first | decide | omega) (iv_w (⟨by decide, by decide⟩ : (0 : Int) ≤ (0 : Int32).toInt ∧ (0 : Int32).toInt ≤ 0) (by decide) (by decide)) hF_fv (fM_rf [89] _) hA_ar (fA_rf [79] _) (by omega) (by omega) hP hS (lv_sub hl [1, 2, 3, 0] rfl)
set_option maxHeartbeats 4000000 in
set_option maxRecDepth 100000 in
theorem m_tried (l : Launch) (dC : Nat → ClassId) (dI : Nat → Nat → Nat) (sz h : Nat) (ad : Nat → Nat) (cA : Nat → ClassId) (hd : dM h ad) (fv : Nat → Int32) (wd : Int64) (ar : Nat → Nat → Int32) (hF_fv : rF fv) (hA_ar : rA ar) (G9 : Nat → Int) (a : Int32) (hp_sW : sW ar) (hp_vM : vM fv ar) (hp_mF : wt_fm G9 (fv 8) (ar 4)) : Met l yX12_tried (.code yX12_tried cX12_tried 4 (some .int) :: lw_good) ({ frames := 10, cells := 0, slots := 0, locals := 225 }) (va_Pc [.ref h, .int a] (prM dC dI h ad cA fv wd ar sz)) (va_Qi (fun (r : Int32) (u : mS) => rF u.1 ∧ rA u.2.2 ∧ fM [0, 8, 36, 66, 84, 85, 87, 89] fv u.1 ∧ fA [4, 15, 16, 18, 24, 64, 65, 68, 69, 70, 71, 72, 73, 74, 75, 76, 77, 78, 79, 80, 82, 83, 88] ar u.2.2 ∧ (sW u.2.2) ∧ (wt_fm G9 (u.1 8) (u.2.2 4)) ∧ True) (enM dC dI h ad cA) (aM h ad sz)) 0 0 (aM h ad sz) := by
  refine Met.ofW (cc := cX12_tried) (maxL := 4) (ret := (some .int)) (by decide) rfl ?_
  intro p e s m args below meth c s₁ B hml hv
  obtain ⟨rfl, hsz, hP, hK⟩ := hv
  have hx := B.exec
  have hb := B.bytes
  have hr := B.returns
  have hts := atoms_spec (ws := (.code yX12_tried cX12_tried 4 (some .int) :: lw_good)) B.pre
  have htg : ∀ w ∈ lw_good, w.before _ s = true := fun w hw => hts w (List.mem_cons_of_mem _ hw)
  have hown : s.vm.findClass RX12 = some m.cls := findClass_of_methodNamed B.named
  have hlocks := B.notSynchronized
  subst hsz
  have hS : va_S (aM h ad s.heap.size) s.heap s.heap [] := va_S.rf
  have hl := lv_entry ([.ref h, .int a]) (n := 4) (Nat.le_of_ble_eq_true rfl)
  rw [lg_entry_eq]
  generalize (lg_sl ([.ref h, .int a]) ++ List.replicate (4 - (lg_sl ([.ref h, .int a])).length) Slot.unset).toArray = ls at hl ⊢
  have hl : lv_has ls 4 [(0, .ref h), (1, .int a)] := hl
  refine lv_aload_n hx hb dX12_tried_0 rfl (lv_at hl 0 rfl) ?_
  refine lv_iconst (v := 0) hx hb dX12_tried_1 (by decide) ?_
  refine pM_0 hx hb htg hown hK hP hS hd dX12_tried_2 (fun H locs fv_1 efv_1 hP hS => ?_)
  have hF_fv_1 : rF fv_1 := rF_put hF_fv efv_1 (iv_any _)
  refine lv_aload_n hx hb dX12_tried_5 rfl (lv_at hl 0 rfl) ?_
  refine lv_iload_n hx hb dX12_tried_6 rfl (lv_at hl 1 rfl) ?_
  refine va_calli (va_runV (As := [.int a]) (rest := []) ⟨hx, hb, hml, hown, hts⟩ (m_isWheel l dC dI H.size h ad cA hd fv_1 wd ar hF_fv_1 hA_ar a) (cwV 1 hts (gV kw_8_40 kw_8_42 kw_p_63 kw_1_15 kw_8_43) rfl rfl rfl (by decide +kernel) ⟨Nat.le_of_ble_eq_true rfl, Nat.le_of_ble_eq_true rfl⟩) ⟨fun a U g mk q => ⟨q.1, q.2.1, q.2.2.1, va_K.moved (u := U) (U := U.calling g mk a) (Vm.Alike.refl U.vm) q.2.2.2⟩, va_recv hK hP (ci := 12) (q0 := 0) rfl rfl, fun U hU hW => ⟨rfl, by rw [hU], by rw [hU]; exact hP, va_K.moved hW.alike hK⟩⟩ rfl rfl hl.1 rfl (lv_room (Nat.le_of_ble_eq_true rfl)) dX12_tried_7 ⟨Nat.le_of_ble_eq_true rfl, Nat.le_of_ble_eq_true rfl⟩) hS (fun q _ h9 => aM_up hS q h9) (aM_up hS) (fun r_2 u t H1 locs ht _ hw hB _ hk1 hS => ?_)
  obtain ⟨fv_5, wd_6, ar_7⟩ := u
  obtain ⟨hF_fv_5, hA_ar_7, fr_8, fa_9, p_3, p_4, -⟩ := hw
  have hP : va_P (dC, dI) vwCl (wsM h ad cA fv_5 wd_6 ar_7) H1 := by have h9 := hB.1; rw [ht] at h9; exact h9
  have fr_8 : fM [] fv_1 fv_5 := fr_8
  have fa_9 : fA [] ar ar_7 := fa_9
  generalize H1 = H at hP hS ⊢
  rcases p_4 with ⟨rfl, p_4⟩ | ⟨rfl, p_4⟩
  · skip
    refine lv_if_eq (tgt := 24) hx hb dX12_tried_10 (by decide) (fun c_10 => ?_) (fun c_10 => ?_)
    · skip
      refine lv_iconst (v := (-1)) hx hb dX12_tried_24 (by decide) ?_
      exact W.iret (v := (-1)) hx hb hr (fun t ht hW => ⟨⟨(-1), (fv_5, wd_6, ar_7), rfl, ⟨hF_fv_5, hA_ar_7, (fM_call (fM_put (fM_rf [0, 8, 36, 66, 84, 85, 87, 89] _) efv_1 (by decide)) fr_8 (by decide)), (fA_call (fA_rf [4, 15, 16, 18, 24, 64, 65, 68, 69, 70, 71, 72, 73, 74, 75, 76, 77, 78, 79, 80, 82, 83, 88] _) fa_9 (by decide)), (sW_fr hp_sW (fA_call (fA_rf [] _) fa_9 (by decide)) rfl rfl), (mF_fr hp_mF (fM_call (fM_put (fM_rf [0] _) efv_1 (by decide)) fr_8 (by decide)) (fA_call (fA_rf [] _) fa_9 (by decide)) rfl rfl), trivial⟩, ⟨by rw [ht]; exact hP, va_K.moved hW.alike hK⟩⟩, hS.F ht⟩) hS.2.2 dX12_tried_25
    · skip
      exact absurd c_10 (by decide)
  · skip
    have i_11 : 0 ≤ a.toInt ∧ a.toInt ≤ 2147483647 := ⟨p_4.1, (iv_any a).2⟩
    have i_12 : 0 ≤ a.toInt ∧ a.toInt ≤ 19 := ⟨i_11.1, p_4.2⟩
    refine lv_if_eq (tgt := 24) hx hb dX12_tried_10 (by decide) (fun c_13 => ?_) (fun c_13 => ?_)
    · skip
      exact absurd c_13 (by decide)
    · skip
      refine lv_aload_n hx hb dX12_tried_13 rfl (lv_at hl 0 rfl) ?_
      refine gM_86 hx hb htg hown hK hP dX12_tried_14 ?_
      refine my_ti (y := fv 86) ((fr_8 86 rfl).trans ((congrFun efv_1 86))) ?_
      refine lv_aload_n hx hb dX12_tried_17 rfl (lv_at hl 0 rfl) ?_
      refine gM_3 hx hb htg hown hK hP dX12_tried_18 ?_
      refine my_ti (y := fv 3) ((fr_8 3 rfl).trans ((congrFun efv_1 3))) ?_
      have i_14 : 0 ≤ (fv 3).toInt ∧ (fv 3).toInt ≤ 199 := hF_fv 3
      refine lv_icmp_ne (tgt := 26) hx hb dX12_tried_21 (by decide) (fun c_15 => ?_) (fun c_15 => ?_)
      · skip
        refine lv_aload_n hx hb dX12_tried_26 rfl (lv_at hl 0 rfl) ?_
        refine lv_iconst (v := 0) hx hb dX12_tried_27 (by decide) ?_
        refine pM_89 hx hb htg hown hK hP hS hd dX12_tried_28 (fun H locs fv_16 efv_16 hP hS => ?_)
        have hF_fv_16 : rF fv_16 := rF_put hF_fv_5 efv_16 (iv_w (⟨by decide, by decide⟩ : (0 : Int) ≤ (0 : Int32).toInt ∧ (0 : Int32).toInt ≤ 0) (by decide) (by decide))
        refine lv_aload_n hx hb dX12_tried_31 rfl (lv_at hl 0 rfl) ?_
        refine gM_36 hx hb htg hown hK hP dX12_tried_32 ?_
        refine my_ti (y := fv 36) ((congrFun efv_16 36).trans ((fr_8 36 rfl).trans ((congrFun efv_1 36)))) ?_
        refine lv_istore_n (lv' := [(2, .int (fv 36)), (0, .ref h), (1, .int a)]) hx hb dX12_tried_35 rfl hl (by decide) rfl (fun ls hl => ?_)
        refine lv_aload_n hx hb dX12_tried_36 rfl (lv_at hl 1 rfl) ?_
        refine lv_aload_n hx hb dX12_tried_37 rfl (lv_at hl 1 rfl) ?_
        refine gM_15 hx hb htg hown hK hP dX12_tried_38 ?_
        refine lv_aload_n hx hb dX12_tried_41 rfl (lv_at hl 1 rfl) ?_
        refine gM_32 hx hb htg hown hK hP dX12_tried_42 ?_
        refine my_ti (y := fv 32) ((congrFun efv_16 32).trans ((fr_8 32 rfl).trans ((congrFun efv_1 32)))) ?_
        have i_17 : 0 ≤ (fv 32).toInt ∧ (fv 32).toInt ≤ 40 := hF_fv 32
        have z_18 : (fv_16 89).toInt = (0 : Int32).toInt := congrArg Int32.toInt ((congrFun efv_16 89))
        have z_19 : (0 : Int32).toInt = 0 := by decide
        have z_20 : 0 ≤ (fv_16 89).toInt ∧ (fv_16 89).toInt ≤ 441 := hF_fv_16 89
        have z_21 : (fv_16 89).toInt = (0 : Int32).toInt := congrArg Int32.toInt ((congrFun efv_16 89))
        have z_22 : (0 : Int32).toInt = 0 := by decide
        have z_23 : 0 ≤ (fv_16 89).toInt ∧ (fv_16 89).toInt ≤ 441 := hF_fv_16 89
        refine va_callv (va_runV (As := [.ref (ad 15), .int (fv 32)]) (rest := []) ⟨hx, hb, hml, hown, hts⟩ (m_keep_15 l dC dI H.size h ad cA hd fv_16 wd_6 ar_7 hF_fv_16 hA_ar_7 (fv 32) i_17 (by omega)) (cwV 2 hts (gV kw_8_236 kw_8_238 kw_p_98 kw_1_15 kw_8_239) rfl rfl rfl (by decide +kernel) ⟨Nat.le_of_ble_eq_true rfl, Nat.le_of_ble_eq_true rfl⟩) ⟨fun a U g mk q => ⟨q.1, q.2.1, q.2.2.1, va_K.moved (u := U) (U := U.calling g mk a) (Vm.Alike.refl U.vm) q.2.2.2⟩, va_recv hK hP (ci := 12) (q0 := 0) rfl rfl, fun U hU hW => ⟨rfl, by rw [hU], by rw [hU]; exact hP, va_K.moved hW.alike hK⟩⟩ rfl rfl hl.1 rfl (lv_room (Nat.le_of_ble_eq_true rfl)) dX12_tried_45 ⟨Nat.le_of_ble_eq_true rfl, Nat.le_of_ble_eq_true rfl⟩) hS (fun q _ h9 => aM_up hS q h9) (aM_up hS) (fun u t H1 locs ht _ hw hB _ hk1 hS => ?_)
        obtain ⟨fv_26, wd_27, ar_28⟩ := u
        obtain ⟨hF_fv_26, hA_ar_28, fr_29, fa_30, p_25, -⟩ := hw
        have hP : va_P (dC, dI) vwCl (wsM h ad cA fv_26 wd_27 ar_28) H1 := by have h9 := hB.1; rw [ht] at h9; exact h9
        have fr_29 : fM [89] fv_16 fv_26 := fr_29
        have fa_30 : fA [88] ar_7 ar_28 := fa_30
        have p_25 : (fv_26 89).toInt = (fv_16 89).toInt + (fv 32).toInt := p_25
        generalize H1 = H at hP hS ⊢
        refine lv_aload_n hx hb dX12_tried_48 rfl (lv_at hl 1 rfl) ?_
        refine lv_aload_n hx hb dX12_tried_49 rfl (lv_at hl 1 rfl) ?_
        refine gM_16 hx hb htg hown hK hP dX12_tried_50 ?_
        refine lv_aload_n hx hb dX12_tried_53 rfl (lv_at hl 1 rfl) ?_
        refine gM_32 hx hb htg hown hK hP dX12_tried_54 ?_
        refine my_ti (y := fv 32) ((fr_29 32 rfl).trans ((congrFun efv_16 32).trans ((fr_8 32 rfl).trans ((congrFun efv_1 32))))) ?_
        have z_31 : 0 ≤ (fv_26 89).toInt ∧ (fv_26 89).toInt ≤ 441 := hF_fv_26 89
        have z_32 : 0 ≤ (fv_26 89).toInt ∧ (fv_26 89).toInt ≤ 441 := hF_fv_26 89
        refine va_callv (va_runV (As := [.ref (ad 16), .int (fv 32)]) (rest := []) ⟨hx, hb, hml, hown, hts⟩ (m_keep_16 l dC dI H.size h ad cA hd fv_26 wd_27 ar_28 hF_fv_26 hA_ar_28 (fv 32) i_17 (by omega)) (cwV 2 hts (gV kw_8_236 kw_8_238 kw_p_98 kw_1_15 kw_8_239) rfl rfl rfl (by decide +kernel) ⟨Nat.le_of_ble_eq_true rfl, Nat.le_of_ble_eq_true rfl⟩) ⟨fun a U g mk q => ⟨q.1, q.2.1, q.2.2.1, va_K.moved (u := U) (U := U.calling g mk a) (Vm.Alike.refl U.vm) q.2.2.2⟩, va_recv hK hP (ci := 12) (q0 := 0) rfl rfl, fun U hU hW => ⟨rfl, by rw [hU], by rw [hU]; exact hP, va_K.moved hW.alike hK⟩⟩ rfl rfl hl.1 rfl (lv_room (Nat.le_of_ble_eq_true rfl)) dX12_tried_57 ⟨Nat.le_of_ble_eq_true rfl, Nat.le_of_ble_eq_true rfl⟩) hS (fun q _ h9 => aM_up hS q h9) (aM_up hS) (fun u t H1 locs ht _ hw hB _ hk1 hS => ?_)
        obtain ⟨fv_35, wd_36, ar_37⟩ := u
        obtain ⟨hF_fv_35, hA_ar_37, fr_38, fa_39, p_34, -⟩ := hw
        have hP : va_P (dC, dI) vwCl (wsM h ad cA fv_35 wd_36 ar_37) H1 := by have h9 := hB.1; rw [ht] at h9; exact h9
        have fr_38 : fM [89] fv_26 fv_35 := fr_38
        have fa_39 : fA [88] ar_28 ar_37 := fa_39
        have p_34 : (fv_35 89).toInt = (fv_26 89).toInt + (fv 32).toInt := p_34
        generalize H1 = H at hP hS ⊢
        refine lv_aload_n hx hb dX12_tried_60 rfl (lv_at hl 1 rfl) ?_
        refine lv_aload_n hx hb dX12_tried_61 rfl (lv_at hl 1 rfl) ?_
        refine gM_18 hx hb htg hown hK hP dX12_tried_62 ?_
        refine lv_aload_n hx hb dX12_tried_65 rfl (lv_at hl 1 rfl) ?_
        refine gM_32 hx hb htg hown hK hP dX12_tried_66 ?_
        refine my_ti (y := fv 32) ((fr_38 32 rfl).trans ((fr_29 32 rfl).trans ((congrFun efv_16 32).trans ((fr_8 32 rfl).trans ((congrFun efv_1 32)))))) ?_
        have z_40 : 0 ≤ (fv_35 89).toInt ∧ (fv_35 89).toInt ≤ 441 := hF_fv_35 89
        have z_41 : 0 ≤ (fv_35 89).toInt ∧ (fv_35 89).toInt ≤ 441 := hF_fv_35 89
        refine va_callv (va_runV (As := [.ref (ad 18), .int (fv 32)]) (rest := []) ⟨hx, hb, hml, hown, hts⟩ (m_keep_18 l dC dI H.size h ad cA hd fv_35 wd_36 ar_37 hF_fv_35 hA_ar_37 (fv 32) i_17 (by omega)) (cwV 2 hts (gV kw_8_236 kw_8_238 kw_p_98 kw_1_15 kw_8_239) rfl rfl rfl (by decide +kernel) ⟨Nat.le_of_ble_eq_true rfl, Nat.le_of_ble_eq_true rfl⟩) ⟨fun a U g mk q => ⟨q.1, q.2.1, q.2.2.1, va_K.moved (u := U) (U := U.calling g mk a) (Vm.Alike.refl U.vm) q.2.2.2⟩, va_recv hK hP (ci := 12) (q0 := 0) rfl rfl, fun U hU hW => ⟨rfl, by rw [hU], by rw [hU]; exact hP, va_K.moved hW.alike hK⟩⟩ rfl rfl hl.1 rfl (lv_room (Nat.le_of_ble_eq_true rfl)) dX12_tried_69 ⟨Nat.le_of_ble_eq_true rfl, Nat.le_of_ble_eq_true rfl⟩) hS (fun q _ h9 => aM_up hS q h9) (aM_up hS) (fun u t H1 locs ht _ hw hB _ hk1 hS => ?_)
        obtain ⟨fv_44, wd_45, ar_46⟩ := u
        obtain ⟨hF_fv_44, hA_ar_46, fr_47, fa_48, p_43, -⟩ := hw
        have hP : va_P (dC, dI) vwCl (wsM h ad cA fv_44 wd_45 ar_46) H1 := by have h9 := hB.1; rw [ht] at h9; exact h9
        have fr_47 : fM [89] fv_35 fv_44 := fr_47
        have fa_48 : fA [88] ar_37 ar_46 := fa_48
        have p_43 : (fv_44 89).toInt = (fv_35 89).toInt + (fv 32).toInt := p_43
        generalize H1 = H at hP hS ⊢
        refine lv_aload_n hx hb dX12_tried_72 rfl (lv_at hl 1 rfl) ?_
        refine lv_aload_n hx hb dX12_tried_73 rfl (lv_at hl 1 rfl) ?_
        refine gM_72 hx hb htg hown hK hP dX12_tried_74 ?_
        refine lv_aload_n hx hb dX12_tried_77 rfl (lv_at hl 1 rfl) ?_
        refine gM_32 hx hb htg hown hK hP dX12_tried_78 ?_
        refine my_ti (y := fv 32) ((fr_47 32 rfl).trans ((fr_38 32 rfl).trans ((fr_29 32 rfl).trans ((congrFun efv_16 32).trans ((fr_8 32 rfl).trans ((congrFun efv_1 32))))))) ?_
        have z_49 : 0 ≤ (fv_44 89).toInt ∧ (fv_44 89).toInt ≤ 441 := hF_fv_44 89
        have z_50 : 0 ≤ (fv_44 89).toInt ∧ (fv_44 89).toInt ≤ 441 := hF_fv_44 89
        refine va_callv (va_runV (As := [.ref (ad 72), .int (fv 32)]) (rest := []) ⟨hx, hb, hml, hown, hts⟩ (m_keep_72 l dC dI H.size h ad cA hd fv_44 wd_45 ar_46 hF_fv_44 hA_ar_46 (fv 32) i_17 (by omega)) (cwV 2 hts (gV kw_8_236 kw_8_238 kw_p_98 kw_1_15 kw_8_239) rfl rfl rfl (by decide +kernel) ⟨Nat.le_of_ble_eq_true rfl, Nat.le_of_ble_eq_true rfl⟩) ⟨fun a U g mk q => ⟨q.1, q.2.1, q.2.2.1, va_K.moved (u := U) (U := U.calling g mk a) (Vm.Alike.refl U.vm) q.2.2.2⟩, va_recv hK hP (ci := 12) (q0 := 0) rfl rfl, fun U hU hW => ⟨rfl, by rw [hU], by rw [hU]; exact hP, va_K.moved hW.alike hK⟩⟩ rfl rfl hl.1 rfl (lv_room (Nat.le_of_ble_eq_true rfl)) dX12_tried_81 ⟨Nat.le_of_ble_eq_true rfl, Nat.le_of_ble_eq_true rfl⟩) hS (fun q _ h9 => aM_up hS q h9) (aM_up hS) (fun u t H1 locs ht _ hw hB _ hk1 hS => ?_)
        obtain ⟨fv_53, wd_54, ar_55⟩ := u
        obtain ⟨hF_fv_53, hA_ar_55, fr_56, fa_57, p_52, -⟩ := hw
        have hP : va_P (dC, dI) vwCl (wsM h ad cA fv_53 wd_54 ar_55) H1 := by have h9 := hB.1; rw [ht] at h9; exact h9
        have fr_56 : fM [89] fv_44 fv_53 := fr_56
        have fa_57 : fA [88] ar_46 ar_55 := fa_57
        have p_52 : (fv_53 89).toInt = (fv_44 89).toInt + (fv 32).toInt := p_52
        generalize H1 = H at hP hS ⊢
        refine lv_aload_n hx hb dX12_tried_84 rfl (lv_at hl 1 rfl) ?_
        refine lv_aload_n hx hb dX12_tried_85 rfl (lv_at hl 1 rfl) ?_
        refine gM_73 hx hb htg hown hK hP dX12_tried_86 ?_
        refine lv_aload_n hx hb dX12_tried_89 rfl (lv_at hl 1 rfl) ?_
        refine gM_32 hx hb htg hown hK hP dX12_tried_90 ?_
        refine my_ti (y := fv 32) ((fr_56 32 rfl).trans ((fr_47 32 rfl).trans ((fr_38 32 rfl).trans ((fr_29 32 rfl).trans ((congrFun efv_16 32).trans ((fr_8 32 rfl).trans ((congrFun efv_1 32)))))))) ?_
        have z_58 : 0 ≤ (fv_53 89).toInt ∧ (fv_53 89).toInt ≤ 441 := hF_fv_53 89
        have z_59 : 0 ≤ (fv_53 89).toInt ∧ (fv_53 89).toInt ≤ 441 := hF_fv_53 89
        refine va_callv (va_runV (As := [.ref (ad 73), .int (fv 32)]) (rest := []) ⟨hx, hb, hml, hown, hts⟩ (m_keep_73 l dC dI H.size h ad cA hd fv_53 wd_54 ar_55 hF_fv_53 hA_ar_55 (fv 32) i_17 (by omega)) (cwV 2 hts (gV kw_8_236 kw_8_238 kw_p_98 kw_1_15 kw_8_239) rfl rfl rfl (by decide +kernel) ⟨Nat.le_of_ble_eq_true rfl, Nat.le_of_ble_eq_true rfl⟩) ⟨fun a U g mk q => ⟨q.1, q.2.1, q.2.2.1, va_K.moved (u := U) (U := U.calling g mk a) (Vm.Alike.refl U.vm) q.2.2.2⟩, va_recv hK hP (ci := 12) (q0 := 0) rfl rfl, fun U hU hW => ⟨rfl, by rw [hU], by rw [hU]; exact hP, va_K.moved hW.alike hK⟩⟩ rfl rfl hl.1 rfl (lv_room (Nat.le_of_ble_eq_true rfl)) dX12_tried_93 ⟨Nat.le_of_ble_eq_true rfl, Nat.le_of_ble_eq_true rfl⟩) hS (fun q _ h9 => aM_up hS q h9) (aM_up hS) (fun u t H1 locs ht _ hw hB _ hk1 hS => ?_)
        obtain ⟨fv_62, wd_63, ar_64⟩ := u
        obtain ⟨hF_fv_62, hA_ar_64, fr_65, fa_66, p_61, -⟩ := hw
        have hP : va_P (dC, dI) vwCl (wsM h ad cA fv_62 wd_63 ar_64) H1 := by have h9 := hB.1; rw [ht] at h9; exact h9
        have fr_65 : fM [89] fv_53 fv_62 := fr_65
        have fa_66 : fA [88] ar_55 ar_64 := fa_66
        have p_61 : (fv_62 89).toInt = (fv_53 89).toInt + (fv 32).toInt := p_61
        generalize H1 = H at hP hS ⊢
        refine lv_aload_n hx hb dX12_tried_96 rfl (lv_at hl 1 rfl) ?_
        refine lv_aload_n hx hb dX12_tried_97 rfl (lv_at hl 1 rfl) ?_
        refine gM_74 hx hb htg hown hK hP dX12_tried_98 ?_
        refine lv_aload_n hx hb dX12_tried_101 rfl (lv_at hl 1 rfl) ?_
        refine gM_32 hx hb htg hown hK hP dX12_tried_102 ?_
        refine my_ti (y := fv 32) ((fr_65 32 rfl).trans ((fr_56 32 rfl).trans ((fr_47 32 rfl).trans ((fr_38 32 rfl).trans ((fr_29 32 rfl).trans ((congrFun efv_16 32).trans ((fr_8 32 rfl).trans ((congrFun efv_1 32))))))))) ?_
        have z_67 : 0 ≤ (fv_62 89).toInt ∧ (fv_62 89).toInt ≤ 441 := hF_fv_62 89
        have z_68 : 0 ≤ (fv_62 89).toInt ∧ (fv_62 89).toInt ≤ 441 := hF_fv_62 89
        refine va_callv (va_runV (As := [.ref (ad 74), .int (fv 32)]) (rest := []) ⟨hx, hb, hml, hown, hts⟩ (m_keep_74 l dC dI H.size h ad cA hd fv_62 wd_63 ar_64 hF_fv_62 hA_ar_64 (fv 32) i_17 (by omega)) (cwV 2 hts (gV kw_8_236 kw_8_238 kw_p_98 kw_1_15 kw_8_239) rfl rfl rfl (by decide +kernel) ⟨Nat.le_of_ble_eq_true rfl, Nat.le_of_ble_eq_true rfl⟩) ⟨fun a U g mk q => ⟨q.1, q.2.1, q.2.2.1, va_K.moved (u := U) (U := U.calling g mk a) (Vm.Alike.refl U.vm) q.2.2.2⟩, va_recv hK hP (ci := 12) (q0 := 0) rfl rfl, fun U hU hW => ⟨rfl, by rw [hU], by rw [hU]; exact hP, va_K.moved hW.alike hK⟩⟩ rfl rfl hl.1 rfl (lv_room (Nat.le_of_ble_eq_true rfl)) dX12_tried_105 ⟨Nat.le_of_ble_eq_true rfl, Nat.le_of_ble_eq_true rfl⟩) hS (fun q _ h9 => aM_up hS q h9) (aM_up hS) (fun u t H1 locs ht _ hw hB _ hk1 hS => ?_)
        obtain ⟨fv_71, wd_72, ar_73⟩ := u
        obtain ⟨hF_fv_71, hA_ar_73, fr_74, fa_75, p_70, -⟩ := hw
        have hP : va_P (dC, dI) vwCl (wsM h ad cA fv_71 wd_72 ar_73) H1 := by have h9 := hB.1; rw [ht] at h9; exact h9
        have fr_74 : fM [89] fv_62 fv_71 := fr_74
        have fa_75 : fA [88] ar_64 ar_73 := fa_75
        have p_70 : (fv_71 89).toInt = (fv_62 89).toInt + (fv 32).toInt := p_70
        generalize H1 = H at hP hS ⊢
        refine lv_aload_n hx hb dX12_tried_108 rfl (lv_at hl 1 rfl) ?_
        refine lv_aload_n hx hb dX12_tried_109 rfl (lv_at hl 1 rfl) ?_
        refine gM_75 hx hb htg hown hK hP dX12_tried_110 ?_
        refine lv_aload_n hx hb dX12_tried_113 rfl (lv_at hl 1 rfl) ?_
        refine gM_32 hx hb htg hown hK hP dX12_tried_114 ?_
        refine my_ti (y := fv 32) ((fr_74 32 rfl).trans ((fr_65 32 rfl).trans ((fr_56 32 rfl).trans ((fr_47 32 rfl).trans ((fr_38 32 rfl).trans ((fr_29 32 rfl).trans ((congrFun efv_16 32).trans ((fr_8 32 rfl).trans ((congrFun efv_1 32)))))))))) ?_
        have z_76 : 0 ≤ (fv_71 89).toInt ∧ (fv_71 89).toInt ≤ 441 := hF_fv_71 89
        have z_77 : 0 ≤ (fv_71 89).toInt ∧ (fv_71 89).toInt ≤ 441 := hF_fv_71 89
        refine va_callv (va_runV (As := [.ref (ad 75), .int (fv 32)]) (rest := []) ⟨hx, hb, hml, hown, hts⟩ (m_keep_75 l dC dI H.size h ad cA hd fv_71 wd_72 ar_73 hF_fv_71 hA_ar_73 (fv 32) i_17 (by omega)) (cwV 2 hts (gV kw_8_236 kw_8_238 kw_p_98 kw_1_15 kw_8_239) rfl rfl rfl (by decide +kernel) ⟨Nat.le_of_ble_eq_true rfl, Nat.le_of_ble_eq_true rfl⟩) ⟨fun a U g mk q => ⟨q.1, q.2.1, q.2.2.1, va_K.moved (u := U) (U := U.calling g mk a) (Vm.Alike.refl U.vm) q.2.2.2⟩, va_recv hK hP (ci := 12) (q0 := 0) rfl rfl, fun U hU hW => ⟨rfl, by rw [hU], by rw [hU]; exact hP, va_K.moved hW.alike hK⟩⟩ rfl rfl hl.1 rfl (lv_room (Nat.le_of_ble_eq_true rfl)) dX12_tried_117 ⟨Nat.le_of_ble_eq_true rfl, Nat.le_of_ble_eq_true rfl⟩) hS (fun q _ h9 => aM_up hS q h9) (aM_up hS) (fun u t H1 locs ht _ hw hB _ hk1 hS => ?_)
        obtain ⟨fv_80, wd_81, ar_82⟩ := u
        obtain ⟨hF_fv_80, hA_ar_82, fr_83, fa_84, p_79, -⟩ := hw
        have hP : va_P (dC, dI) vwCl (wsM h ad cA fv_80 wd_81 ar_82) H1 := by have h9 := hB.1; rw [ht] at h9; exact h9
        have fr_83 : fM [89] fv_71 fv_80 := fr_83
        have fa_84 : fA [88] ar_73 ar_82 := fa_84
        have p_79 : (fv_80 89).toInt = (fv_71 89).toInt + (fv 32).toInt := p_79
        generalize H1 = H at hP hS ⊢
        refine lv_aload_n hx hb dX12_tried_120 rfl (lv_at hl 1 rfl) ?_
        refine lv_aload_n hx hb dX12_tried_121 rfl (lv_at hl 1 rfl) ?_
        refine gM_24 hx hb htg hown hK hP dX12_tried_122 ?_
        refine lv_aload_n hx hb dX12_tried_125 rfl (lv_at hl 1 rfl) ?_
        refine gM_34 hx hb htg hown hK hP dX12_tried_126 ?_
        refine my_ti (y := fv 34) ((fr_83 34 rfl).trans ((fr_74 34 rfl).trans ((fr_65 34 rfl).trans ((fr_56 34 rfl).trans ((fr_47 34 rfl).trans ((fr_38 34 rfl).trans ((fr_29 34 rfl).trans ((congrFun efv_16 34).trans ((fr_8 34 rfl).trans ((congrFun efv_1 34))))))))))) ?_
        have i_85 : 0 ≤ (fv 34).toInt ∧ (fv 34).toInt ≤ 20 := hF_fv 34
        have z_86 : 0 ≤ (fv_80 89).toInt ∧ (fv_80 89).toInt ≤ 441 := hF_fv_80 89
        have z_87 : 0 ≤ (fv_80 89).toInt ∧ (fv_80 89).toInt ≤ 441 := hF_fv_80 89
        refine va_callv (va_runV (As := [.ref (ad 24), .int (fv 34)]) (rest := []) ⟨hx, hb, hml, hown, hts⟩ (m_keep_24 l dC dI H.size h ad cA hd fv_80 wd_81 ar_82 hF_fv_80 hA_ar_82 (fv 34) i_85 (by omega)) (cwV 2 hts (gV kw_8_236 kw_8_238 kw_p_98 kw_1_15 kw_8_239) rfl rfl rfl (by decide +kernel) ⟨Nat.le_of_ble_eq_true rfl, Nat.le_of_ble_eq_true rfl⟩) ⟨fun a U g mk q => ⟨q.1, q.2.1, q.2.2.1, va_K.moved (u := U) (U := U.calling g mk a) (Vm.Alike.refl U.vm) q.2.2.2⟩, va_recv hK hP (ci := 12) (q0 := 0) rfl rfl, fun U hU hW => ⟨rfl, by rw [hU], by rw [hU]; exact hP, va_K.moved hW.alike hK⟩⟩ rfl rfl hl.1 rfl (lv_room (Nat.le_of_ble_eq_true rfl)) dX12_tried_129 ⟨Nat.le_of_ble_eq_true rfl, Nat.le_of_ble_eq_true rfl⟩) hS (fun q _ h9 => aM_up hS q h9) (aM_up hS) (fun u t H1 locs ht _ hw hB _ hk1 hS => ?_)
        obtain ⟨fv_90, wd_91, ar_92⟩ := u
        obtain ⟨hF_fv_90, hA_ar_92, fr_93, fa_94, p_89, -⟩ := hw
        have hP : va_P (dC, dI) vwCl (wsM h ad cA fv_90 wd_91 ar_92) H1 := by have h9 := hB.1; rw [ht] at h9; exact h9
        have fr_93 : fM [89] fv_80 fv_90 := fr_93
        have fa_94 : fA [88] ar_82 ar_92 := fa_94
        have p_89 : (fv_90 89).toInt = (fv_80 89).toInt + (fv 34).toInt := p_89
        generalize H1 = H at hP hS ⊢
        refine lv_aload_n hx hb dX12_tried_132 rfl (lv_at hl 1 rfl) ?_
        refine lv_aload_n hx hb dX12_tried_133 rfl (lv_at hl 1 rfl) ?_
        refine gM_76 hx hb htg hown hK hP dX12_tried_134 ?_
        refine lv_aload_n hx hb dX12_tried_137 rfl (lv_at hl 1 rfl) ?_
        refine gM_34 hx hb htg hown hK hP dX12_tried_138 ?_
        refine my_ti (y := fv 34) ((fr_93 34 rfl).trans ((fr_83 34 rfl).trans ((fr_74 34 rfl).trans ((fr_65 34 rfl).trans ((fr_56 34 rfl).trans ((fr_47 34 rfl).trans ((fr_38 34 rfl).trans ((fr_29 34 rfl).trans ((congrFun efv_16 34).trans ((fr_8 34 rfl).trans ((congrFun efv_1 34)))))))))))) ?_
        have z_95 : 0 ≤ (fv_90 89).toInt ∧ (fv_90 89).toInt ≤ 441 := hF_fv_90 89
        have z_96 : 0 ≤ (fv_90 89).toInt ∧ (fv_90 89).toInt ≤ 441 := hF_fv_90 89
        refine va_callv (va_runV (As := [.ref (ad 76), .int (fv 34)]) (rest := []) ⟨hx, hb, hml, hown, hts⟩ (m_keep_76 l dC dI H.size h ad cA hd fv_90 wd_91 ar_92 hF_fv_90 hA_ar_92 (fv 34) i_85 (by omega)) (cwV 2 hts (gV kw_8_236 kw_8_238 kw_p_98 kw_1_15 kw_8_239) rfl rfl rfl (by decide +kernel) ⟨Nat.le_of_ble_eq_true rfl, Nat.le_of_ble_eq_true rfl⟩) ⟨fun a U g mk q => ⟨q.1, q.2.1, q.2.2.1, va_K.moved (u := U) (U := U.calling g mk a) (Vm.Alike.refl U.vm) q.2.2.2⟩, va_recv hK hP (ci := 12) (q0 := 0) rfl rfl, fun U hU hW => ⟨rfl, by rw [hU], by rw [hU]; exact hP, va_K.moved hW.alike hK⟩⟩ rfl rfl hl.1 rfl (lv_room (Nat.le_of_ble_eq_true rfl)) dX12_tried_141 ⟨Nat.le_of_ble_eq_true rfl, Nat.le_of_ble_eq_true rfl⟩) hS (fun q _ h9 => aM_up hS q h9) (aM_up hS) (fun u t H1 locs ht _ hw hB _ hk1 hS => ?_)
        obtain ⟨fv_99, wd_100, ar_101⟩ := u
        obtain ⟨hF_fv_99, hA_ar_101, fr_102, fa_103, p_98, -⟩ := hw
        have hP : va_P (dC, dI) vwCl (wsM h ad cA fv_99 wd_100 ar_101) H1 := by have h9 := hB.1; rw [ht] at h9; exact h9
        have fr_102 : fM [89] fv_90 fv_99 := fr_102
        have fa_103 : fA [88] ar_92 ar_101 := fa_103
        have p_98 : (fv_99 89).toInt = (fv_90 89).toInt + (fv 34).toInt := p_98
        generalize H1 = H at hP hS ⊢
        refine lv_aload_n hx hb dX12_tried_144 rfl (lv_at hl 1 rfl) ?_
        refine lv_aload_n hx hb dX12_tried_145 rfl (lv_at hl 1 rfl) ?_
        refine gM_78 hx hb htg hown hK hP dX12_tried_146 ?_
        refine lv_aload_n hx hb dX12_tried_149 rfl (lv_at hl 1 rfl) ?_
        refine gM_34 hx hb htg hown hK hP dX12_tried_150 ?_
        refine my_ti (y := fv 34) ((fr_102 34 rfl).trans ((fr_93 34 rfl).trans ((fr_83 34 rfl).trans ((fr_74 34 rfl).trans ((fr_65 34 rfl).trans ((fr_56 34 rfl).trans ((fr_47 34 rfl).trans ((fr_38 34 rfl).trans ((fr_29 34 rfl).trans ((congrFun efv_16 34).trans ((fr_8 34 rfl).trans ((congrFun efv_1 34))))))))))))) ?_
        have z_104 : 0 ≤ (fv_99 89).toInt ∧ (fv_99 89).toInt ≤ 441 := hF_fv_99 89
        have z_105 : 0 ≤ (fv_99 89).toInt ∧ (fv_99 89).toInt ≤ 441 := hF_fv_99 89
        refine va_callv (va_runV (As := [.ref (ad 78), .int (fv 34)]) (rest := []) ⟨hx, hb, hml, hown, hts⟩ (m_keep_78 l dC dI H.size h ad cA hd fv_99 wd_100 ar_101 hF_fv_99 hA_ar_101 (fv 34) i_85 (by omega)) (cwV 2 hts (gV kw_8_236 kw_8_238 kw_p_98 kw_1_15 kw_8_239) rfl rfl rfl (by decide +kernel) ⟨Nat.le_of_ble_eq_true rfl, Nat.le_of_ble_eq_true rfl⟩) ⟨fun a U g mk q => ⟨q.1, q.2.1, q.2.2.1, va_K.moved (u := U) (U := U.calling g mk a) (Vm.Alike.refl U.vm) q.2.2.2⟩, va_recv hK hP (ci := 12) (q0 := 0) rfl rfl, fun U hU hW => ⟨rfl, by rw [hU], by rw [hU]; exact hP, va_K.moved hW.alike hK⟩⟩ rfl rfl hl.1 rfl (lv_room (Nat.le_of_ble_eq_true rfl)) dX12_tried_153 ⟨Nat.le_of_ble_eq_true rfl, Nat.le_of_ble_eq_true rfl⟩) hS (fun q _ h9 => aM_up hS q h9) (aM_up hS) (fun u t H1 locs ht _ hw hB _ hk1 hS => ?_)
        obtain ⟨fv_108, wd_109, ar_110⟩ := u
        obtain ⟨hF_fv_108, hA_ar_110, fr_111, fa_112, p_107, -⟩ := hw
        have hP : va_P (dC, dI) vwCl (wsM h ad cA fv_108 wd_109 ar_110) H1 := by have h9 := hB.1; rw [ht] at h9; exact h9
        have fr_111 : fM [89] fv_99 fv_108 := fr_111
        have fa_112 : fA [88] ar_101 ar_110 := fa_112
        have p_107 : (fv_108 89).toInt = (fv_99 89).toInt + (fv 34).toInt := p_107
        generalize H1 = H at hP hS ⊢
        refine lv_aload_n hx hb dX12_tried_156 rfl (lv_at hl 1 rfl) ?_
        refine lv_aload_n hx hb dX12_tried_157 rfl (lv_at hl 1 rfl) ?_
        refine gM_79 hx hb htg hown hK hP dX12_tried_158 ?_
        refine lv_aload_n hx hb dX12_tried_161 rfl (lv_at hl 1 rfl) ?_
        refine gM_34 hx hb htg hown hK hP dX12_tried_162 ?_
        refine my_ti (y := fv 34) ((fr_111 34 rfl).trans ((fr_102 34 rfl).trans ((fr_93 34 rfl).trans ((fr_83 34 rfl).trans ((fr_74 34 rfl).trans ((fr_65 34 rfl).trans ((fr_56 34 rfl).trans ((fr_47 34 rfl).trans ((fr_38 34 rfl).trans ((fr_29 34 rfl).trans ((congrFun efv_16 34).trans ((fr_8 34 rfl).trans ((congrFun efv_1 34)))))))))))))) ?_
        have z_113 : 0 ≤ (fv_108 89).toInt ∧ (fv_108 89).toInt ≤ 441 := hF_fv_108 89
        have z_114 : 0 ≤ (fv_108 89).toInt ∧ (fv_108 89).toInt ≤ 441 := hF_fv_108 89
        refine va_callv (va_runV (As := [.ref (ad 79), .int (fv 34)]) (rest := []) ⟨hx, hb, hml, hown, hts⟩ (m_keep_79 l dC dI H.size h ad cA hd fv_108 wd_109 ar_110 hF_fv_108 hA_ar_110 (fv 34) i_85 (by omega)) (cwV 2 hts (gV kw_8_236 kw_8_238 kw_p_98 kw_1_15 kw_8_239) rfl rfl rfl (by decide +kernel) ⟨Nat.le_of_ble_eq_true rfl, Nat.le_of_ble_eq_true rfl⟩) ⟨fun a U g mk q => ⟨q.1, q.2.1, q.2.2.1, va_K.moved (u := U) (U := U.calling g mk a) (Vm.Alike.refl U.vm) q.2.2.2⟩, va_recv hK hP (ci := 12) (q0 := 0) rfl rfl, fun U hU hW => ⟨rfl, by rw [hU], by rw [hU]; exact hP, va_K.moved hW.alike hK⟩⟩ rfl rfl hl.1 rfl (lv_room (Nat.le_of_ble_eq_true rfl)) dX12_tried_165 ⟨Nat.le_of_ble_eq_true rfl, Nat.le_of_ble_eq_true rfl⟩) hS (fun q _ h9 => aM_up hS q h9) (aM_up hS) (fun u t H1 locs ht _ hw hB _ hk1 hS => ?_)
        obtain ⟨fv_117, wd_118, ar_119⟩ := u
        obtain ⟨hF_fv_117, hA_ar_119, fr_120, fa_121, p_116, -⟩ := hw
        have hP : va_P (dC, dI) vwCl (wsM h ad cA fv_117 wd_118 ar_119) H1 := by have h9 := hB.1; rw [ht] at h9; exact h9
        have fr_120 : fM [89] fv_108 fv_117 := fr_120
        have fa_121 : fA [88] ar_110 ar_119 := fa_121
        have p_116 : (fv_117 89).toInt = (fv_108 89).toInt + (fv 34).toInt := p_116
        generalize H1 = H at hP hS ⊢
        refine lv_aload_n hx hb dX12_tried_168 rfl (lv_at hl 1 rfl) ?_
        refine lv_iload_n hx hb dX12_tried_169 rfl (lv_at hl 2 rfl) ?_
        refine va_callv (va_runV (As := [.int a]) (rest := []) ⟨hx, hb, hml, hown, hts⟩ (m_goThrough l dC dI H.size h ad cA hd fv_117 wd_118 ar_119 hF_fv_117 hA_ar_119 G9 a (sW_fr hp_sW (fA_call (fA_call (fA_call (fA_call (fA_call (fA_call (fA_call (fA_call (fA_call (fA_call (fA_call (fA_call (fA_rf [88] _) fa_9 (by decide)) fa_30 (by decide)) fa_39 (by decide)) fa_48 (by decide)) fa_57 (by decide)) fa_66 (by decide)) fa_75 (by decide)) fa_84 (by decide)) fa_94 (by decide)) fa_103 (by decide)) fa_112 (by decide)) fa_121 (by decide)) rfl rfl) (vM_fr hp_vM (fM_call (fM_call (fM_call (fM_call (fM_call (fM_call (fM_call (fM_call (fM_call (fM_call (fM_call (fM_put (fM_call (fM_put (fM_rf [0, 89] _) efv_1 (by decide)) fr_8 (by decide)) efv_16 (by decide)) fr_29 (by decide)) fr_38 (by decide)) fr_47 (by decide)) fr_56 (by decide)) fr_65 (by decide)) fr_74 (by decide)) fr_83 (by decide)) fr_93 (by decide)) fr_102 (by decide)) fr_111 (by decide)) fr_120 (by decide)) (fA_call (fA_call (fA_call (fA_call (fA_call (fA_call (fA_call (fA_call (fA_call (fA_call (fA_call (fA_call (fA_rf [88] _) fa_9 (by decide)) fa_30 (by decide)) fa_39 (by decide)) fa_48 (by decide)) fa_57 (by decide)) fa_66 (by decide)) fa_75 (by decide)) fa_84 (by decide)) fa_94 (by decide)) fa_103 (by decide)) fa_112 (by decide)) fa_121 (by decide)) rfl rfl rfl rfl rfl) (mF_fr hp_mF (fM_call (fM_call (fM_call (fM_call (fM_call (fM_call (fM_call (fM_call (fM_call (fM_call (fM_call (fM_put (fM_call (fM_put (fM_rf [0, 89] _) efv_1 (by decide)) fr_8 (by decide)) efv_16 (by decide)) fr_29 (by decide)) fr_38 (by decide)) fr_47 (by decide)) fr_56 (by decide)) fr_65 (by decide)) fr_74 (by decide)) fr_83 (by decide)) fr_93 (by decide)) fr_102 (by decide)) fr_111 (by decide)) fr_120 (by decide)) (fA_call (fA_call (fA_call (fA_call (fA_call (fA_call (fA_call (fA_call (fA_call (fA_call (fA_call (fA_call (fA_rf [88] _) fa_9 (by decide)) fa_30 (by decide)) fa_39 (by decide)) fa_48 (by decide)) fa_57 (by decide)) fa_66 (by decide)) fa_75 (by decide)) fa_84 (by decide)) fa_94 (by decide)) fa_103 (by decide)) fa_112 (by decide)) fa_121 (by decide)) rfl rfl)) (cwV 1 hts (gV kw_8_172 kw_8_174 kw_p_83 kw_1_15 kw_8_175) rfl rfl rfl (by decide +kernel) ⟨Nat.le_of_ble_eq_true rfl, Nat.le_of_ble_eq_true rfl⟩) ⟨fun a U g mk q => ⟨q.1, q.2.1, q.2.2.1, va_K.moved (u := U) (U := U.calling g mk a) (Vm.Alike.refl U.vm) q.2.2.2⟩, va_recv hK hP (ci := 12) (q0 := 0) rfl rfl, fun U hU hW => ⟨rfl, by rw [hU], by rw [hU]; exact hP, va_K.moved hW.alike hK⟩⟩ rfl rfl hl.1 rfl (lv_room (Nat.le_of_ble_eq_true rfl)) dX12_tried_170 ⟨Nat.le_of_ble_eq_true rfl, Nat.le_of_ble_eq_true rfl⟩) hS (fun q _ h9 => aM_up hS q h9) (aM_up hS) (fun u t H1 locs ht _ hw hB _ hk1 hS => ?_)
        obtain ⟨fv_125, wd_126, ar_127⟩ := u
        obtain ⟨hF_fv_125, hA_ar_127, fr_128, fa_129, p_123, p_124, -⟩ := hw
        have hP : va_P (dC, dI) vwCl (wsM h ad cA fv_125 wd_126 ar_127) H1 := by have h9 := hB.1; rw [ht] at h9; exact h9
        have fr_128 : fM [8, 36, 66, 84, 85, 87] fv_117 fv_125 := fr_128
        have fa_129 : fA [4, 15, 16, 18, 24, 64, 65, 68, 69, 70, 71, 72, 73, 74, 75, 76, 77, 78, 79, 80, 82, 83] ar_119 ar_127 := fa_129
        have p_123 : sW ar_127 := p_123
        have p_124 : wt_fm G9 (fv_125 8) (ar_127 4) := p_124
        generalize H1 = H at hP hS ⊢
        refine lv_aload_n hx hb dX12_tried_173 rfl (lv_at hl 1 rfl) ?_
        refine va_calli (va_runV (As := []) (rest := []) ⟨hx, hb, hml, hown, hts⟩ (m_inTime l dC dI H.size h ad cA hd fv_125 wd_126 ar_127 hF_fv_125 hA_ar_127) (cwV 0 hts (gV kw_8_228 kw_8_230 kw_p_97 kw_1_15 kw_8_231) rfl rfl rfl (by decide +kernel) ⟨Nat.le_of_ble_eq_true rfl, Nat.le_of_ble_eq_true rfl⟩) ⟨fun a U g mk q => ⟨q.1, q.2.1, q.2.2.1, va_K.moved (u := U) (U := U.calling g mk a) (Vm.Alike.refl U.vm) q.2.2.2⟩, va_recv hK hP (ci := 12) (q0 := 0) rfl rfl, fun U hU hW => ⟨rfl, by rw [hU], by rw [hU]; exact hP, va_K.moved hW.alike hK⟩⟩ rfl rfl hl.1 rfl (lv_room (Nat.le_of_ble_eq_true rfl)) dX12_tried_174 ⟨Nat.le_of_ble_eq_true rfl, Nat.le_of_ble_eq_true rfl⟩) hS (fun q _ h9 => aM_up hS q h9) (aM_up hS) (fun r_130 u t H1 locs ht _ hw hB _ hk1 hS => ?_)
        obtain ⟨fv_131, wd_132, ar_133⟩ := u
        obtain ⟨hF_fv_131, hA_ar_133, fr_134, fa_135, -⟩ := hw
        have hP : va_P (dC, dI) vwCl (wsM h ad cA fv_131 wd_132 ar_133) H1 := by have h9 := hB.1; rw [ht] at h9; exact h9
        have fr_134 : fM [] fv_125 fv_131 := fr_134
        have fa_135 : fA [] ar_127 ar_133 := fa_135
        generalize H1 = H at hP hS ⊢
        refine lv_istore_n (lv' := [(3, .int r_130), (2, .int (fv 36)), (0, .ref h), (1, .int a)]) hx hb dX12_tried_177 rfl hl (by decide) rfl (fun ls hl => ?_)
        refine lv_aload_n hx hb dX12_tried_178 rfl (lv_at hl 2 rfl) ?_
        refine lv_iconst (v := 0) hx hb dX12_tried_179 (by decide) ?_
        refine pM_89 hx hb htg hown hK hP hS hd dX12_tried_180 (fun H locs fv_136 efv_136 hP hS => ?_)
        have hF_fv_136 : rF fv_136 := rF_put hF_fv_131 efv_136 (iv_w (⟨by decide, by decide⟩ : (0 : Int) ≤ (0 : Int32).toInt ∧ (0 : Int32).toInt ≤ 0) (by decide) (by decide))
        refine lv_aload_n hx hb dX12_tried_183 rfl (lv_at hl 2 rfl) ?_
        refine lv_iload_n hx hb dX12_tried_184 rfl (lv_at hl 1 rfl) ?_
        refine pM_36 hx hb htg hown hK hP hS hd dX12_tried_185 (fun H locs fv_137 efv_137 hP hS => ?_)
        have hF_fv_137 : rF fv_137 := rF_put hF_fv_136 efv_137 (iv_any (fv 36))
        refine lv_aload_n hx hb dX12_tried_188 rfl (lv_at hl 2 rfl) ?_
        refine lv_aload_n hx hb dX12_tried_189 rfl (lv_at hl 2 rfl) ?_
        refine gM_15 hx hb htg hown hK hP dX12_tried_190 ?_
        refine lv_aload_n hx hb dX12_tried_193 rfl (lv_at hl 2 rfl) ?_
        refine gM_32 hx hb htg hown hK hP dX12_tried_194 ?_
        refine my_ti (y := fv 32) ((congrFun efv_137 32).trans ((congrFun efv_136 32).trans ((fr_134 32 rfl).trans ((fr_128 32 rfl).trans ((fr_120 32 rfl).trans ((fr_111 32 rfl).trans ((fr_102 32 rfl).trans ((fr_93 32 rfl).trans ((fr_83 32 rfl).trans ((fr_74 32 rfl).trans ((fr_65 32 rfl).trans ((fr_56 32 rfl).trans ((fr_47 32 rfl).trans ((fr_38 32 rfl).trans ((fr_29 32 rfl).trans ((congrFun efv_16 32).trans ((fr_8 32 rfl).trans ((congrFun efv_1 32))))))))))))))))))) ?_
        have z_138 : (fv_137 89).toInt = (0 : Int32).toInt := congrArg Int32.toInt ((congrFun efv_137 89).trans ((congrFun efv_136 89)))
        have z_139 : (0 : Int32).toInt = 0 := by decide
        have z_140 : 0 ≤ (fv_137 89).toInt ∧ (fv_137 89).toInt ≤ 441 := hF_fv_137 89
        have z_141 : (fv_137 89).toInt = (0 : Int32).toInt := congrArg Int32.toInt ((congrFun efv_137 89).trans ((congrFun efv_136 89)))
        have z_142 : (0 : Int32).toInt = 0 := by decide
        have z_143 : 0 ≤ (fv_137 89).toInt ∧ (fv_137 89).toInt ≤ 441 := hF_fv_137 89
        refine va_callv (va_runV (As := [.ref (ad 15), .int (fv 32)]) (rest := []) ⟨hx, hb, hml, hown, hts⟩ (m_putBack_15 l dC dI H.size h ad cA hd fv_137 wd_132 ar_133 hF_fv_137 hA_ar_133 (fv 32) i_17 (by omega)) (cwV 2 hts (gV kw_9_0 kw_9_2 kw_p_99 kw_1_15 kw_9_3) rfl rfl rfl (by decide +kernel) ⟨Nat.le_of_ble_eq_true rfl, Nat.le_of_ble_eq_true rfl⟩) ⟨fun a U g mk q => ⟨q.1, q.2.1, q.2.2.1, va_K.moved (u := U) (U := U.calling g mk a) (Vm.Alike.refl U.vm) q.2.2.2⟩, va_recv hK hP (ci := 12) (q0 := 0) rfl rfl, fun U hU hW => ⟨rfl, by rw [hU], by rw [hU]; exact hP, va_K.moved hW.alike hK⟩⟩ rfl rfl hl.1 rfl (lv_room (Nat.le_of_ble_eq_true rfl)) dX12_tried_197 ⟨Nat.le_of_ble_eq_true rfl, Nat.le_of_ble_eq_true rfl⟩) hS (fun q _ h9 => aM_up hS q h9) (aM_up hS) (fun u t H1 locs ht _ hw hB _ hk1 hS => ?_)
        obtain ⟨fv_146, wd_147, ar_148⟩ := u
        obtain ⟨hF_fv_146, hA_ar_148, fr_149, fa_150, p_145, -⟩ := hw
        have hP : va_P (dC, dI) vwCl (wsM h ad cA fv_146 wd_147 ar_148) H1 := by have h9 := hB.1; rw [ht] at h9; exact h9
        have fr_149 : fM [89] fv_137 fv_146 := fr_149
        have fa_150 : fA [15] ar_133 ar_148 := fa_150
        have p_145 : (fv_146 89).toInt = (fv_137 89).toInt + (fv 32).toInt := p_145
        generalize H1 = H at hP hS ⊢
        refine lv_aload_n hx hb dX12_tried_200 rfl (lv_at hl 2 rfl) ?_
        refine lv_aload_n hx hb dX12_tried_201 rfl (lv_at hl 2 rfl) ?_
        refine gM_16 hx hb htg hown hK hP dX12_tried_202 ?_
        refine lv_aload_n hx hb dX12_tried_205 rfl (lv_at hl 2 rfl) ?_
        refine gM_32 hx hb htg hown hK hP dX12_tried_206 ?_
        refine my_ti (y := fv 32) ((fr_149 32 rfl).trans ((congrFun efv_137 32).trans ((congrFun efv_136 32).trans ((fr_134 32 rfl).trans ((fr_128 32 rfl).trans ((fr_120 32 rfl).trans ((fr_111 32 rfl).trans ((fr_102 32 rfl).trans ((fr_93 32 rfl).trans ((fr_83 32 rfl).trans ((fr_74 32 rfl).trans ((fr_65 32 rfl).trans ((fr_56 32 rfl).trans ((fr_47 32 rfl).trans ((fr_38 32 rfl).trans ((fr_29 32 rfl).trans ((congrFun efv_16 32).trans ((fr_8 32 rfl).trans ((congrFun efv_1 32)))))))))))))))))))) ?_
        have z_151 : 0 ≤ (fv_146 89).toInt ∧ (fv_146 89).toInt ≤ 441 := hF_fv_146 89
        have z_152 : 0 ≤ (fv_146 89).toInt ∧ (fv_146 89).toInt ≤ 441 := hF_fv_146 89
        refine va_callv (va_runV (As := [.ref (ad 16), .int (fv 32)]) (rest := []) ⟨hx, hb, hml, hown, hts⟩ (m_putBack_16 l dC dI H.size h ad cA hd fv_146 wd_147 ar_148 hF_fv_146 hA_ar_148 (fv 32) i_17 (by omega)) (cwV 2 hts (gV kw_9_0 kw_9_2 kw_p_99 kw_1_15 kw_9_3) rfl rfl rfl (by decide +kernel) ⟨Nat.le_of_ble_eq_true rfl, Nat.le_of_ble_eq_true rfl⟩) ⟨fun a U g mk q => ⟨q.1, q.2.1, q.2.2.1, va_K.moved (u := U) (U := U.calling g mk a) (Vm.Alike.refl U.vm) q.2.2.2⟩, va_recv hK hP (ci := 12) (q0 := 0) rfl rfl, fun U hU hW => ⟨rfl, by rw [hU], by rw [hU]; exact hP, va_K.moved hW.alike hK⟩⟩ rfl rfl hl.1 rfl (lv_room (Nat.le_of_ble_eq_true rfl)) dX12_tried_209 ⟨Nat.le_of_ble_eq_true rfl, Nat.le_of_ble_eq_true rfl⟩) hS (fun q _ h9 => aM_up hS q h9) (aM_up hS) (fun u t H1 locs ht _ hw hB _ hk1 hS => ?_)
        obtain ⟨fv_155, wd_156, ar_157⟩ := u
        obtain ⟨hF_fv_155, hA_ar_157, fr_158, fa_159, p_154, -⟩ := hw
        have hP : va_P (dC, dI) vwCl (wsM h ad cA fv_155 wd_156 ar_157) H1 := by have h9 := hB.1; rw [ht] at h9; exact h9
        have fr_158 : fM [89] fv_146 fv_155 := fr_158
        have fa_159 : fA [16] ar_148 ar_157 := fa_159
        have p_154 : (fv_155 89).toInt = (fv_146 89).toInt + (fv 32).toInt := p_154
        generalize H1 = H at hP hS ⊢
        refine lv_aload_n hx hb dX12_tried_212 rfl (lv_at hl 2 rfl) ?_
        refine lv_aload_n hx hb dX12_tried_213 rfl (lv_at hl 2 rfl) ?_
        refine gM_18 hx hb htg hown hK hP dX12_tried_214 ?_
        refine lv_aload_n hx hb dX12_tried_217 rfl (lv_at hl 2 rfl) ?_
        refine gM_32 hx hb htg hown hK hP dX12_tried_218 ?_
        refine my_ti (y := fv 32) ((fr_158 32 rfl).trans ((fr_149 32 rfl).trans ((congrFun efv_137 32).trans ((congrFun efv_136 32).trans ((fr_134 32 rfl).trans ((fr_128 32 rfl).trans ((fr_120 32 rfl).trans ((fr_111 32 rfl).trans ((fr_102 32 rfl).trans ((fr_93 32 rfl).trans ((fr_83 32 rfl).trans ((fr_74 32 rfl).trans ((fr_65 32 rfl).trans ((fr_56 32 rfl).trans ((fr_47 32 rfl).trans ((fr_38 32 rfl).trans ((fr_29 32 rfl).trans ((congrFun efv_16 32).trans ((fr_8 32 rfl).trans ((congrFun efv_1 32))))))))))))))))))))) ?_
        have z_160 : 0 ≤ (fv_155 89).toInt ∧ (fv_155 89).toInt ≤ 441 := hF_fv_155 89
        have z_161 : 0 ≤ (fv_155 89).toInt ∧ (fv_155 89).toInt ≤ 441 := hF_fv_155 89
        refine va_callv (va_runV (As := [.ref (ad 18), .int (fv 32)]) (rest := []) ⟨hx, hb, hml, hown, hts⟩ (m_putBack_18 l dC dI H.size h ad cA hd fv_155 wd_156 ar_157 hF_fv_155 hA_ar_157 (fv 32) i_17 (by omega)) (cwV 2 hts (gV kw_9_0 kw_9_2 kw_p_99 kw_1_15 kw_9_3) rfl rfl rfl (by decide +kernel) ⟨Nat.le_of_ble_eq_true rfl, Nat.le_of_ble_eq_true rfl⟩) ⟨fun a U g mk q => ⟨q.1, q.2.1, q.2.2.1, va_K.moved (u := U) (U := U.calling g mk a) (Vm.Alike.refl U.vm) q.2.2.2⟩, va_recv hK hP (ci := 12) (q0 := 0) rfl rfl, fun U hU hW => ⟨rfl, by rw [hU], by rw [hU]; exact hP, va_K.moved hW.alike hK⟩⟩ rfl rfl hl.1 rfl (lv_room (Nat.le_of_ble_eq_true rfl)) dX12_tried_221 ⟨Nat.le_of_ble_eq_true rfl, Nat.le_of_ble_eq_true rfl⟩) hS (fun q _ h9 => aM_up hS q h9) (aM_up hS) (fun u t H1 locs ht _ hw hB _ hk1 hS => ?_)
        obtain ⟨fv_164, wd_165, ar_166⟩ := u
        obtain ⟨hF_fv_164, hA_ar_166, fr_167, fa_168, p_163, -⟩ := hw
        have hP : va_P (dC, dI) vwCl (wsM h ad cA fv_164 wd_165 ar_166) H1 := by have h9 := hB.1; rw [ht] at h9; exact h9
        have fr_167 : fM [89] fv_155 fv_164 := fr_167
        have fa_168 : fA [18] ar_157 ar_166 := fa_168
        have p_163 : (fv_164 89).toInt = (fv_155 89).toInt + (fv 32).toInt := p_163
        generalize H1 = H at hP hS ⊢
        refine lv_aload_n hx hb dX12_tried_224 rfl (lv_at hl 2 rfl) ?_
        refine lv_aload_n hx hb dX12_tried_225 rfl (lv_at hl 2 rfl) ?_
        refine gM_72 hx hb htg hown hK hP dX12_tried_226 ?_
        refine lv_aload_n hx hb dX12_tried_229 rfl (lv_at hl 2 rfl) ?_
        refine gM_32 hx hb htg hown hK hP dX12_tried_230 ?_
        refine my_ti (y := fv 32) ((fr_167 32 rfl).trans ((fr_158 32 rfl).trans ((fr_149 32 rfl).trans ((congrFun efv_137 32).trans ((congrFun efv_136 32).trans ((fr_134 32 rfl).trans ((fr_128 32 rfl).trans ((fr_120 32 rfl).trans ((fr_111 32 rfl).trans ((fr_102 32 rfl).trans ((fr_93 32 rfl).trans ((fr_83 32 rfl).trans ((fr_74 32 rfl).trans ((fr_65 32 rfl).trans ((fr_56 32 rfl).trans ((fr_47 32 rfl).trans ((fr_38 32 rfl).trans ((fr_29 32 rfl).trans ((congrFun efv_16 32).trans ((fr_8 32 rfl).trans ((congrFun efv_1 32)))))))))))))))))))))) ?_
        have z_169 : 0 ≤ (fv_164 89).toInt ∧ (fv_164 89).toInt ≤ 441 := hF_fv_164 89
        have z_170 : 0 ≤ (fv_164 89).toInt ∧ (fv_164 89).toInt ≤ 441 := hF_fv_164 89
        refine va_callv (va_runV (As := [.ref (ad 72), .int (fv 32)]) (rest := []) ⟨hx, hb, hml, hown, hts⟩ (m_putBack_72 l dC dI H.size h ad cA hd fv_164 wd_165 ar_166 hF_fv_164 hA_ar_166 (fv 32) i_17 (by omega)) (cwV 2 hts (gV kw_9_0 kw_9_2 kw_p_99 kw_1_15 kw_9_3) rfl rfl rfl (by decide +kernel) ⟨Nat.le_of_ble_eq_true rfl, Nat.le_of_ble_eq_true rfl⟩) ⟨fun a U g mk q => ⟨q.1, q.2.1, q.2.2.1, va_K.moved (u := U) (U := U.calling g mk a) (Vm.Alike.refl U.vm) q.2.2.2⟩, va_recv hK hP (ci := 12) (q0 := 0) rfl rfl, fun U hU hW => ⟨rfl, by rw [hU], by rw [hU]; exact hP, va_K.moved hW.alike hK⟩⟩ rfl rfl hl.1 rfl (lv_room (Nat.le_of_ble_eq_true rfl)) dX12_tried_233 ⟨Nat.le_of_ble_eq_true rfl, Nat.le_of_ble_eq_true rfl⟩) hS (fun q _ h9 => aM_up hS q h9) (aM_up hS) (fun u t H1 locs ht _ hw hB _ hk1 hS => ?_)
        obtain ⟨fv_173, wd_174, ar_175⟩ := u
        obtain ⟨hF_fv_173, hA_ar_175, fr_176, fa_177, p_172, -⟩ := hw
        have hP : va_P (dC, dI) vwCl (wsM h ad cA fv_173 wd_174 ar_175) H1 := by have h9 := hB.1; rw [ht] at h9; exact h9
        have fr_176 : fM [89] fv_164 fv_173 := fr_176
        have fa_177 : fA [72] ar_166 ar_175 := fa_177
        have p_172 : (fv_173 89).toInt = (fv_164 89).toInt + (fv 32).toInt := p_172
        generalize H1 = H at hP hS ⊢
        refine lv_aload_n hx hb dX12_tried_236 rfl (lv_at hl 2 rfl) ?_
        refine lv_aload_n hx hb dX12_tried_237 rfl (lv_at hl 2 rfl) ?_
        refine gM_73 hx hb htg hown hK hP dX12_tried_238 ?_
        refine lv_aload_n hx hb dX12_tried_241 rfl (lv_at hl 2 rfl) ?_
        refine gM_32 hx hb htg hown hK hP dX12_tried_242 ?_
        refine my_ti (y := fv 32) ((fr_176 32 rfl).trans ((fr_167 32 rfl).trans ((fr_158 32 rfl).trans ((fr_149 32 rfl).trans ((congrFun efv_137 32).trans ((congrFun efv_136 32).trans ((fr_134 32 rfl).trans ((fr_128 32 rfl).trans ((fr_120 32 rfl).trans ((fr_111 32 rfl).trans ((fr_102 32 rfl).trans ((fr_93 32 rfl).trans ((fr_83 32 rfl).trans ((fr_74 32 rfl).trans ((fr_65 32 rfl).trans ((fr_56 32 rfl).trans ((fr_47 32 rfl).trans ((fr_38 32 rfl).trans ((fr_29 32 rfl).trans ((congrFun efv_16 32).trans ((fr_8 32 rfl).trans ((congrFun efv_1 32))))))))))))))))))))))) ?_
        have z_178 : 0 ≤ (fv_173 89).toInt ∧ (fv_173 89).toInt ≤ 441 := hF_fv_173 89
        have z_179 : 0 ≤ (fv_173 89).toInt ∧ (fv_173 89).toInt ≤ 441 := hF_fv_173 89
        refine va_callv (va_runV (As := [.ref (ad 73), .int (fv 32)]) (rest := []) ⟨hx, hb, hml, hown, hts⟩ (m_putBack_73 l dC dI H.size h ad cA hd fv_173 wd_174 ar_175 hF_fv_173 hA_ar_175 (fv 32) i_17 (by omega)) (cwV 2 hts (gV kw_9_0 kw_9_2 kw_p_99 kw_1_15 kw_9_3) rfl rfl rfl (by decide +kernel) ⟨Nat.le_of_ble_eq_true rfl, Nat.le_of_ble_eq_true rfl⟩) ⟨fun a U g mk q => ⟨q.1, q.2.1, q.2.2.1, va_K.moved (u := U) (U := U.calling g mk a) (Vm.Alike.refl U.vm) q.2.2.2⟩, va_recv hK hP (ci := 12) (q0 := 0) rfl rfl, fun U hU hW => ⟨rfl, by rw [hU], by rw [hU]; exact hP, va_K.moved hW.alike hK⟩⟩ rfl rfl hl.1 rfl (lv_room (Nat.le_of_ble_eq_true rfl)) dX12_tried_245 ⟨Nat.le_of_ble_eq_true rfl, Nat.le_of_ble_eq_true rfl⟩) hS (fun q _ h9 => aM_up hS q h9) (aM_up hS) (fun u t H1 locs ht _ hw hB _ hk1 hS => ?_)
        obtain ⟨fv_182, wd_183, ar_184⟩ := u
        obtain ⟨hF_fv_182, hA_ar_184, fr_185, fa_186, p_181, -⟩ := hw
        have hP : va_P (dC, dI) vwCl (wsM h ad cA fv_182 wd_183 ar_184) H1 := by have h9 := hB.1; rw [ht] at h9; exact h9
        have fr_185 : fM [89] fv_173 fv_182 := fr_185
        have fa_186 : fA [73] ar_175 ar_184 := fa_186
        have p_181 : (fv_182 89).toInt = (fv_173 89).toInt + (fv 32).toInt := p_181
        generalize H1 = H at hP hS ⊢
        refine lv_aload_n hx hb dX12_tried_248 rfl (lv_at hl 2 rfl) ?_
        refine lv_aload_n hx hb dX12_tried_249 rfl (lv_at hl 2 rfl) ?_
        refine gM_74 hx hb htg hown hK hP dX12_tried_250 ?_
        refine lv_aload_n hx hb dX12_tried_253 rfl (lv_at hl 2 rfl) ?_
        refine gM_32 hx hb htg hown hK hP dX12_tried_254 ?_
        refine my_ti (y := fv 32) ((fr_185 32 rfl).trans ((fr_176 32 rfl).trans ((fr_167 32 rfl).trans ((fr_158 32 rfl).trans ((fr_149 32 rfl).trans ((congrFun efv_137 32).trans ((congrFun efv_136 32).trans ((fr_134 32 rfl).trans ((fr_128 32 rfl).trans ((fr_120 32 rfl).trans ((fr_111 32 rfl).trans ((fr_102 32 rfl).trans ((fr_93 32 rfl).trans ((fr_83 32 rfl).trans ((fr_74 32 rfl).trans ((fr_65 32 rfl).trans ((fr_56 32 rfl).trans ((fr_47 32 rfl).trans ((fr_38 32 rfl).trans ((fr_29 32 rfl).trans ((congrFun efv_16 32).trans ((fr_8 32 rfl).trans ((congrFun efv_1 32)))))))))))))))))))))))) ?_
        have z_187 : 0 ≤ (fv_182 89).toInt ∧ (fv_182 89).toInt ≤ 441 := hF_fv_182 89
        have z_188 : 0 ≤ (fv_182 89).toInt ∧ (fv_182 89).toInt ≤ 441 := hF_fv_182 89
        refine va_callv (va_runV (As := [.ref (ad 74), .int (fv 32)]) (rest := []) ⟨hx, hb, hml, hown, hts⟩ (m_putBack_74 l dC dI H.size h ad cA hd fv_182 wd_183 ar_184 hF_fv_182 hA_ar_184 (fv 32) i_17 (by omega)) (cwV 2 hts (gV kw_9_0 kw_9_2 kw_p_99 kw_1_15 kw_9_3) rfl rfl rfl (by decide +kernel) ⟨Nat.le_of_ble_eq_true rfl, Nat.le_of_ble_eq_true rfl⟩) ⟨fun a U g mk q => ⟨q.1, q.2.1, q.2.2.1, va_K.moved (u := U) (U := U.calling g mk a) (Vm.Alike.refl U.vm) q.2.2.2⟩, va_recv hK hP (ci := 12) (q0 := 0) rfl rfl, fun U hU hW => ⟨rfl, by rw [hU], by rw [hU]; exact hP, va_K.moved hW.alike hK⟩⟩ rfl rfl hl.1 rfl (lv_room (Nat.le_of_ble_eq_true rfl)) dX12_tried_257 ⟨Nat.le_of_ble_eq_true rfl, Nat.le_of_ble_eq_true rfl⟩) hS (fun q _ h9 => aM_up hS q h9) (aM_up hS) (fun u t H1 locs ht _ hw hB _ hk1 hS => ?_)
        obtain ⟨fv_191, wd_192, ar_193⟩ := u
        obtain ⟨hF_fv_191, hA_ar_193, fr_194, fa_195, p_190, -⟩ := hw
        have hP : va_P (dC, dI) vwCl (wsM h ad cA fv_191 wd_192 ar_193) H1 := by have h9 := hB.1; rw [ht] at h9; exact h9
        have fr_194 : fM [89] fv_182 fv_191 := fr_194
        have fa_195 : fA [74] ar_184 ar_193 := fa_195
        have p_190 : (fv_191 89).toInt = (fv_182 89).toInt + (fv 32).toInt := p_190
        generalize H1 = H at hP hS ⊢
        refine lv_aload_n hx hb dX12_tried_260 rfl (lv_at hl 2 rfl) ?_
        refine lv_aload_n hx hb dX12_tried_261 rfl (lv_at hl 2 rfl) ?_
        refine gM_75 hx hb htg hown hK hP dX12_tried_262 ?_
        refine lv_aload_n hx hb dX12_tried_265 rfl (lv_at hl 2 rfl) ?_
        refine gM_32 hx hb htg hown hK hP dX12_tried_266 ?_
        refine my_ti (y := fv 32) ((fr_194 32 rfl).trans ((fr_185 32 rfl).trans ((fr_176 32 rfl).trans ((fr_167 32 rfl).trans ((fr_158 32 rfl).trans ((fr_149 32 rfl).trans ((congrFun efv_137 32).trans ((congrFun efv_136 32).trans ((fr_134 32 rfl).trans ((fr_128 32 rfl).trans ((fr_120 32 rfl).trans ((fr_111 32 rfl).trans ((fr_102 32 rfl).trans ((fr_93 32 rfl).trans ((fr_83 32 rfl).trans ((fr_74 32 rfl).trans ((fr_65 32 rfl).trans ((fr_56 32 rfl).trans ((fr_47 32 rfl).trans ((fr_38 32 rfl).trans ((fr_29 32 rfl).trans ((congrFun efv_16 32).trans ((fr_8 32 rfl).trans ((congrFun efv_1 32))))))))))))))))))))))))) ?_
        have z_196 : 0 ≤ (fv_191 89).toInt ∧ (fv_191 89).toInt ≤ 441 := hF_fv_191 89
        have z_197 : 0 ≤ (fv_191 89).toInt ∧ (fv_191 89).toInt ≤ 441 := hF_fv_191 89
        refine va_callv (va_runV (As := [.ref (ad 75), .int (fv 32)]) (rest := []) ⟨hx, hb, hml, hown, hts⟩ (m_putBack_75 l dC dI H.size h ad cA hd fv_191 wd_192 ar_193 hF_fv_191 hA_ar_193 (fv 32) i_17 (by omega)) (cwV 2 hts (gV kw_9_0 kw_9_2 kw_p_99 kw_1_15 kw_9_3) rfl rfl rfl (by decide +kernel) ⟨Nat.le_of_ble_eq_true rfl, Nat.le_of_ble_eq_true rfl⟩) ⟨fun a U g mk q => ⟨q.1, q.2.1, q.2.2.1, va_K.moved (u := U) (U := U.calling g mk a) (Vm.Alike.refl U.vm) q.2.2.2⟩, va_recv hK hP (ci := 12) (q0 := 0) rfl rfl, fun U hU hW => ⟨rfl, by rw [hU], by rw [hU]; exact hP, va_K.moved hW.alike hK⟩⟩ rfl rfl hl.1 rfl (lv_room (Nat.le_of_ble_eq_true rfl)) dX12_tried_269 ⟨Nat.le_of_ble_eq_true rfl, Nat.le_of_ble_eq_true rfl⟩) hS (fun q _ h9 => aM_up hS q h9) (aM_up hS) (fun u t H1 locs ht _ hw hB _ hk1 hS => ?_)
        obtain ⟨fv_200, wd_201, ar_202⟩ := u
        obtain ⟨hF_fv_200, hA_ar_202, fr_203, fa_204, p_199, -⟩ := hw
        have hP : va_P (dC, dI) vwCl (wsM h ad cA fv_200 wd_201 ar_202) H1 := by have h9 := hB.1; rw [ht] at h9; exact h9
        have fr_203 : fM [89] fv_191 fv_200 := fr_203
        have fa_204 : fA [75] ar_193 ar_202 := fa_204
        have p_199 : (fv_200 89).toInt = (fv_191 89).toInt + (fv 32).toInt := p_199
        generalize H1 = H at hP hS ⊢
        refine lv_aload_n hx hb dX12_tried_272 rfl (lv_at hl 2 rfl) ?_
        refine lv_aload_n hx hb dX12_tried_273 rfl (lv_at hl 2 rfl) ?_
        refine gM_24 hx hb htg hown hK hP dX12_tried_274 ?_
        refine lv_aload_n hx hb dX12_tried_277 rfl (lv_at hl 2 rfl) ?_
        refine gM_34 hx hb htg hown hK hP dX12_tried_278 ?_
        refine my_ti (y := fv 34) ((fr_203 34 rfl).trans ((fr_194 34 rfl).trans ((fr_185 34 rfl).trans ((fr_176 34 rfl).trans ((fr_167 34 rfl).trans ((fr_158 34 rfl).trans ((fr_149 34 rfl).trans ((congrFun efv_137 34).trans ((congrFun efv_136 34).trans ((fr_134 34 rfl).trans ((fr_128 34 rfl).trans ((fr_120 34 rfl).trans ((fr_111 34 rfl).trans ((fr_102 34 rfl).trans ((fr_93 34 rfl).trans ((fr_83 34 rfl).trans ((fr_74 34 rfl).trans ((fr_65 34 rfl).trans ((fr_56 34 rfl).trans ((fr_47 34 rfl).trans ((fr_38 34 rfl).trans ((fr_29 34 rfl).trans ((congrFun efv_16 34).trans ((fr_8 34 rfl).trans ((congrFun efv_1 34)))))))))))))))))))))))))) ?_
        have z_205 : 0 ≤ (fv_200 89).toInt ∧ (fv_200 89).toInt ≤ 441 := hF_fv_200 89
        have z_206 : 0 ≤ (fv_200 89).toInt ∧ (fv_200 89).toInt ≤ 441 := hF_fv_200 89
        refine va_callv (va_runV (As := [.ref (ad 24), .int (fv 34)]) (rest := []) ⟨hx, hb, hml, hown, hts⟩ (m_putBack_24 l dC dI H.size h ad cA hd fv_200 wd_201 ar_202 hF_fv_200 hA_ar_202 (fv 34) i_85 (by omega)) (cwV 2 hts (gV kw_9_0 kw_9_2 kw_p_99 kw_1_15 kw_9_3) rfl rfl rfl (by decide +kernel) ⟨Nat.le_of_ble_eq_true rfl, Nat.le_of_ble_eq_true rfl⟩) ⟨fun a U g mk q => ⟨q.1, q.2.1, q.2.2.1, va_K.moved (u := U) (U := U.calling g mk a) (Vm.Alike.refl U.vm) q.2.2.2⟩, va_recv hK hP (ci := 12) (q0 := 0) rfl rfl, fun U hU hW => ⟨rfl, by rw [hU], by rw [hU]; exact hP, va_K.moved hW.alike hK⟩⟩ rfl rfl hl.1 rfl (lv_room (Nat.le_of_ble_eq_true rfl)) dX12_tried_281 ⟨Nat.le_of_ble_eq_true rfl, Nat.le_of_ble_eq_true rfl⟩) hS (fun q _ h9 => aM_up hS q h9) (aM_up hS) (fun u t H1 locs ht _ hw hB _ hk1 hS => ?_)
        obtain ⟨fv_209, wd_210, ar_211⟩ := u
        obtain ⟨hF_fv_209, hA_ar_211, fr_212, fa_213, p_208, -⟩ := hw
        have hP : va_P (dC, dI) vwCl (wsM h ad cA fv_209 wd_210 ar_211) H1 := by have h9 := hB.1; rw [ht] at h9; exact h9
        have fr_212 : fM [89] fv_200 fv_209 := fr_212
        have fa_213 : fA [24] ar_202 ar_211 := fa_213
        have p_208 : (fv_209 89).toInt = (fv_200 89).toInt + (fv 34).toInt := p_208
        generalize H1 = H at hP hS ⊢
        refine lv_aload_n hx hb dX12_tried_284 rfl (lv_at hl 2 rfl) ?_
        refine lv_aload_n hx hb dX12_tried_285 rfl (lv_at hl 2 rfl) ?_
        refine gM_76 hx hb htg hown hK hP dX12_tried_286 ?_
        refine lv_aload_n hx hb dX12_tried_289 rfl (lv_at hl 2 rfl) ?_
        refine gM_34 hx hb htg hown hK hP dX12_tried_290 ?_
        refine my_ti (y := fv 34) ((fr_212 34 rfl).trans ((fr_203 34 rfl).trans ((fr_194 34 rfl).trans ((fr_185 34 rfl).trans ((fr_176 34 rfl).trans ((fr_167 34 rfl).trans ((fr_158 34 rfl).trans ((fr_149 34 rfl).trans ((congrFun efv_137 34).trans ((congrFun efv_136 34).trans ((fr_134 34 rfl).trans ((fr_128 34 rfl).trans ((fr_120 34 rfl).trans ((fr_111 34 rfl).trans ((fr_102 34 rfl).trans ((fr_93 34 rfl).trans ((fr_83 34 rfl).trans ((fr_74 34 rfl).trans ((fr_65 34 rfl).trans ((fr_56 34 rfl).trans ((fr_47 34 rfl).trans ((fr_38 34 rfl).trans ((fr_29 34 rfl).trans ((congrFun efv_16 34).trans ((fr_8 34 rfl).trans ((congrFun efv_1 34))))))))))))))))))))))))))) ?_
        have z_214 : 0 ≤ (fv_209 89).toInt ∧ (fv_209 89).toInt ≤ 441 := hF_fv_209 89
        have z_215 : 0 ≤ (fv_209 89).toInt ∧ (fv_209 89).toInt ≤ 441 := hF_fv_209 89
        refine va_callv (va_runV (As := [.ref (ad 76), .int (fv 34)]) (rest := []) ⟨hx, hb, hml, hown, hts⟩ (m_putBack_76 l dC dI H.size h ad cA hd fv_209 wd_210 ar_211 hF_fv_209 hA_ar_211 (fv 34) i_85 (by omega)) (cwV 2 hts (gV kw_9_0 kw_9_2 kw_p_99 kw_1_15 kw_9_3) rfl rfl rfl (by decide +kernel) ⟨Nat.le_of_ble_eq_true rfl, Nat.le_of_ble_eq_true rfl⟩) ⟨fun a U g mk q => ⟨q.1, q.2.1, q.2.2.1, va_K.moved (u := U) (U := U.calling g mk a) (Vm.Alike.refl U.vm) q.2.2.2⟩, va_recv hK hP (ci := 12) (q0 := 0) rfl rfl, fun U hU hW => ⟨rfl, by rw [hU], by rw [hU]; exact hP, va_K.moved hW.alike hK⟩⟩ rfl rfl hl.1 rfl (lv_room (Nat.le_of_ble_eq_true rfl)) dX12_tried_293 ⟨Nat.le_of_ble_eq_true rfl, Nat.le_of_ble_eq_true rfl⟩) hS (fun q _ h9 => aM_up hS q h9) (aM_up hS) (fun u t H1 locs ht _ hw hB _ hk1 hS => ?_)
        obtain ⟨fv_218, wd_219, ar_220⟩ := u
        obtain ⟨hF_fv_218, hA_ar_220, fr_221, fa_222, p_217, -⟩ := hw
        have hP : va_P (dC, dI) vwCl (wsM h ad cA fv_218 wd_219 ar_220) H1 := by have h9 := hB.1; rw [ht] at h9; exact h9
        have fr_221 : fM [89] fv_209 fv_218 := fr_221
        have fa_222 : fA [76] ar_211 ar_220 := fa_222
        have p_217 : (fv_218 89).toInt = (fv_209 89).toInt + (fv 34).toInt := p_217
        generalize H1 = H at hP hS ⊢
        refine lv_aload_n hx hb dX12_tried_296 rfl (lv_at hl 2 rfl) ?_
        refine lv_aload_n hx hb dX12_tried_297 rfl (lv_at hl 2 rfl) ?_
        refine gM_78 hx hb htg hown hK hP dX12_tried_298 ?_
        refine lv_aload_n hx hb dX12_tried_301 rfl (lv_at hl 2 rfl) ?_
        refine gM_34 hx hb htg hown hK hP dX12_tried_302 ?_
        refine my_ti (y := fv 34) ((fr_221 34 rfl).trans ((fr_212 34 rfl).trans ((fr_203 34 rfl).trans ((fr_194 34 rfl).trans ((fr_185 34 rfl).trans ((fr_176 34 rfl).trans ((fr_167 34 rfl).trans ((fr_158 34 rfl).trans ((fr_149 34 rfl).trans ((congrFun efv_137 34).trans ((congrFun efv_136 34).trans ((fr_134 34 rfl).trans ((fr_128 34 rfl).trans ((fr_120 34 rfl).trans ((fr_111 34 rfl).trans ((fr_102 34 rfl).trans ((fr_93 34 rfl).trans ((fr_83 34 rfl).trans ((fr_74 34 rfl).trans ((fr_65 34 rfl).trans ((fr_56 34 rfl).trans ((fr_47 34 rfl).trans ((fr_38 34 rfl).trans ((fr_29 34 rfl).trans ((congrFun efv_16 34).trans ((fr_8 34 rfl).trans ((congrFun efv_1 34)))))))))))))))))))))))))))) ?_
        have z_223 : 0 ≤ (fv_218 89).toInt ∧ (fv_218 89).toInt ≤ 441 := hF_fv_218 89
        have z_224 : 0 ≤ (fv_218 89).toInt ∧ (fv_218 89).toInt ≤ 441 := hF_fv_218 89
        refine va_callv (va_runV (As := [.ref (ad 78), .int (fv 34)]) (rest := []) ⟨hx, hb, hml, hown, hts⟩ (m_putBack_78 l dC dI H.size h ad cA hd fv_218 wd_219 ar_220 hF_fv_218 hA_ar_220 (fv 34) i_85 (by omega)) (cwV 2 hts (gV kw_9_0 kw_9_2 kw_p_99 kw_1_15 kw_9_3) rfl rfl rfl (by decide +kernel) ⟨Nat.le_of_ble_eq_true rfl, Nat.le_of_ble_eq_true rfl⟩) ⟨fun a U g mk q => ⟨q.1, q.2.1, q.2.2.1, va_K.moved (u := U) (U := U.calling g mk a) (Vm.Alike.refl U.vm) q.2.2.2⟩, va_recv hK hP (ci := 12) (q0 := 0) rfl rfl, fun U hU hW => ⟨rfl, by rw [hU], by rw [hU]; exact hP, va_K.moved hW.alike hK⟩⟩ rfl rfl hl.1 rfl (lv_room (Nat.le_of_ble_eq_true rfl)) dX12_tried_305 ⟨Nat.le_of_ble_eq_true rfl, Nat.le_of_ble_eq_true rfl⟩) hS (fun q _ h9 => aM_up hS q h9) (aM_up hS) (fun u t H1 locs ht _ hw hB _ hk1 hS => ?_)
        obtain ⟨fv_227, wd_228, ar_229⟩ := u
        obtain ⟨hF_fv_227, hA_ar_229, fr_230, fa_231, p_226, -⟩ := hw
        have hP : va_P (dC, dI) vwCl (wsM h ad cA fv_227 wd_228 ar_229) H1 := by have h9 := hB.1; rw [ht] at h9; exact h9
        have fr_230 : fM [89] fv_218 fv_227 := fr_230
        have fa_231 : fA [78] ar_220 ar_229 := fa_231
        have p_226 : (fv_227 89).toInt = (fv_218 89).toInt + (fv 34).toInt := p_226
        generalize H1 = H at hP hS ⊢
        refine lv_aload_n hx hb dX12_tried_308 rfl (lv_at hl 2 rfl) ?_
        refine lv_aload_n hx hb dX12_tried_309 rfl (lv_at hl 2 rfl) ?_
        refine gM_79 hx hb htg hown hK hP dX12_tried_310 ?_
        refine lv_aload_n hx hb dX12_tried_313 rfl (lv_at hl 2 rfl) ?_
        refine gM_34 hx hb htg hown hK hP dX12_tried_314 ?_
        refine my_ti (y := fv 34) ((fr_230 34 rfl).trans ((fr_221 34 rfl).trans ((fr_212 34 rfl).trans ((fr_203 34 rfl).trans ((fr_194 34 rfl).trans ((fr_185 34 rfl).trans ((fr_176 34 rfl).trans ((fr_167 34 rfl).trans ((fr_158 34 rfl).trans ((fr_149 34 rfl).trans ((congrFun efv_137 34).trans ((congrFun efv_136 34).trans ((fr_134 34 rfl).trans ((fr_128 34 rfl).trans ((fr_120 34 rfl).trans ((fr_111 34 rfl).trans ((fr_102 34 rfl).trans ((fr_93 34 rfl).trans ((fr_83 34 rfl).trans ((fr_74 34 rfl).trans ((fr_65 34 rfl).trans ((fr_56 34 rfl).trans ((fr_47 34 rfl).trans ((fr_38 34 rfl).trans ((fr_29 34 rfl).trans ((congrFun efv_16 34).trans ((fr_8 34 rfl).trans ((congrFun efv_1 34))))))))))))))))))))))))))))) ?_
        have z_232 : 0 ≤ (fv_227 89).toInt ∧ (fv_227 89).toInt ≤ 441 := hF_fv_227 89
        have z_233 : 0 ≤ (fv_227 89).toInt ∧ (fv_227 89).toInt ≤ 441 := hF_fv_227 89
        refine va_callv (va_runV (As := [.ref (ad 79), .int (fv 34)]) (rest := []) ⟨hx, hb, hml, hown, hts⟩ (m_putBack_79 l dC dI H.size h ad cA hd fv_227 wd_228 ar_229 hF_fv_227 hA_ar_229 (fv 34) i_85 (by omega)) (cwV 2 hts (gV kw_9_0 kw_9_2 kw_p_99 kw_1_15 kw_9_3) rfl rfl rfl (by decide +kernel) ⟨Nat.le_of_ble_eq_true rfl, Nat.le_of_ble_eq_true rfl⟩) ⟨fun a U g mk q => ⟨q.1, q.2.1, q.2.2.1, va_K.moved (u := U) (U := U.calling g mk a) (Vm.Alike.refl U.vm) q.2.2.2⟩, va_recv hK hP (ci := 12) (q0 := 0) rfl rfl, fun U hU hW => ⟨rfl, by rw [hU], by rw [hU]; exact hP, va_K.moved hW.alike hK⟩⟩ rfl rfl hl.1 rfl (lv_room (Nat.le_of_ble_eq_true rfl)) dX12_tried_317 ⟨Nat.le_of_ble_eq_true rfl, Nat.le_of_ble_eq_true rfl⟩) hS (fun q _ h9 => aM_up hS q h9) (aM_up hS) (fun u t H1 locs ht _ hw hB _ hk1 hS => ?_)
        obtain ⟨fv_236, wd_237, ar_238⟩ := u
        obtain ⟨hF_fv_236, hA_ar_238, fr_239, fa_240, p_235, -⟩ := hw
        have hP : va_P (dC, dI) vwCl (wsM h ad cA fv_236 wd_237 ar_238) H1 := by have h9 := hB.1; rw [ht] at h9; exact h9
        have fr_239 : fM [89] fv_227 fv_236 := fr_239
        have fa_240 : fA [79] ar_229 ar_238 := fa_240
        have p_235 : (fv_236 89).toInt = (fv_227 89).toInt + (fv 34).toInt := p_235
        generalize H1 = H at hP hS ⊢
        refine lv_iload_n hx hb dX12_tried_320 rfl (lv_at hl 0 rfl) ?_
        exact W.iret (v := r_130) hx hb hr (fun t ht hW => ⟨⟨r_130, (fv_236, wd_237, ar_238), rfl, ⟨hF_fv_236, hA_ar_238, (fM_call (fM_call (fM_call (fM_call (fM_call (fM_call (fM_call (fM_call (fM_call (fM_call (fM_call (fM_put (fM_put (fM_call (fM_call (fM_call (fM_call (fM_call (fM_call (fM_call (fM_call (fM_call (fM_call (fM_call (fM_call (fM_call (fM_put (fM_call (fM_put (fM_rf [0, 8, 36, 66, 84, 85, 87, 89] _) efv_1 (by decide)) fr_8 (by decide)) efv_16 (by decide)) fr_29 (by decide)) fr_38 (by decide)) fr_47 (by decide)) fr_56 (by decide)) fr_65 (by decide)) fr_74 (by decide)) fr_83 (by decide)) fr_93 (by decide)) fr_102 (by decide)) fr_111 (by decide)) fr_120 (by decide)) fr_128 (by decide)) fr_134 (by decide)) efv_136 (by decide)) efv_137 (by decide)) fr_149 (by decide)) fr_158 (by decide)) fr_167 (by decide)) fr_176 (by decide)) fr_185 (by decide)) fr_194 (by decide)) fr_203 (by decide)) fr_212 (by decide)) fr_221 (by decide)) fr_230 (by decide)) fr_239 (by decide)), (fA_call (fA_call (fA_call (fA_call (fA_call (fA_call (fA_call (fA_call (fA_call (fA_call (fA_call (fA_call (fA_call (fA_call (fA_call (fA_call (fA_call (fA_call (fA_call (fA_call (fA_call (fA_call (fA_call (fA_call (fA_call (fA_rf [4, 15, 16, 18, 24, 64, 65, 68, 69, 70, 71, 72, 73, 74, 75, 76, 77, 78, 79, 80, 82, 83, 88] _) fa_9 (by decide)) fa_30 (by decide)) fa_39 (by decide)) fa_48 (by decide)) fa_57 (by decide)) fa_66 (by decide)) fa_75 (by decide)) fa_84 (by decide)) fa_94 (by decide)) fa_103 (by decide)) fa_112 (by decide)) fa_121 (by decide)) fa_129 (by decide)) fa_135 (by decide)) fa_150 (by decide)) fa_159 (by decide)) fa_168 (by decide)) fa_177 (by decide)) fa_186 (by decide)) fa_195 (by decide)) fa_204 (by decide)) fa_213 (by decide)) fa_222 (by decide)) fa_231 (by decide)) fa_240 (by decide)), (sW_fr p_123 (fA_call (fA_call (fA_call (fA_call (fA_call (fA_call (fA_call (fA_call (fA_call (fA_call (fA_call (fA_call (fA_rf [15, 16, 18, 24, 72, 73, 74, 75, 76, 78, 79] _) fa_135 (by decide)) fa_150 (by decide)) fa_159 (by decide)) fa_168 (by decide)) fa_177 (by decide)) fa_186 (by decide)) fa_195 (by decide)) fa_204 (by decide)) fa_213 (by decide)) fa_222 (by decide)) fa_231 (by decide)) fa_240 (by decide)) rfl rfl), (mF_fr p_124 (fM_call (fM_call (fM_call (fM_call (fM_call (fM_call (fM_call (fM_call (fM_call (fM_call (fM_call (fM_put (fM_put (fM_call (fM_rf [36, 89] _) fr_134 (by decide)) efv_136 (by decide)) efv_137 (by decide)) fr_149 (by decide)) fr_158 (by decide)) fr_167 (by decide)) fr_176 (by decide)) fr_185 (by decide)) fr_194 (by decide)) fr_203 (by decide)) fr_212 (by decide)) fr_221 (by decide)) fr_230 (by decide)) fr_239 (by decide)) (fA_call (fA_call (fA_call (fA_call (fA_call (fA_call (fA_call (fA_call (fA_call (fA_call (fA_call (fA_call (fA_rf [15, 16, 18, 24, 72, 73, 74, 75, 76, 78, 79] _) fa_135 (by decide)) fa_150 (by decide)) fa_159 (by decide)) fa_168 (by decide)) fa_177 (by decide)) fa_186 (by decide)) fa_195 (by decide)) fa_204 (by decide)) fa_213 (by decide)) fa_222 (by decide)) fa_231 (by decide)) fa_240 (by decide)) rfl rfl), trivial⟩, ⟨by rw [ht]; exact hP, va_K.moved hW.alike hK⟩⟩, hS.F ht⟩) hS.2.2 dX12_tried_321
      · skip
        have i_241 : 0 ≤ (fv 86).toInt ∧ (fv 86).toInt ≤ 199 := iv_eq1 i_14 c_15
        refine lv_iconst (v := (-1)) hx hb dX12_tried_24 (by decide) ?_
        exact W.iret (v := (-1)) hx hb hr (fun t ht hW => ⟨⟨(-1), (fv_5, wd_6, ar_7), rfl, ⟨hF_fv_5, hA_ar_7, (fM_call (fM_put (fM_rf [0, 8, 36, 66, 84, 85, 87, 89] _) efv_1 (by decide)) fr_8 (by decide)), (fA_call (fA_rf [4, 15, 16, 18, 24, 64, 65, 68, 69, 70, 71, 72, 73, 74, 75, 76, 77, 78, 79, 80, 82, 83, 88] _) fa_9 (by decide)), (sW_fr hp_sW (fA_call (fA_rf [] _) fa_9 (by decide)) rfl rfl), (mF_fr hp_mF (fM_call (fM_put (fM_rf [0] _) efv_1 (by decide)) fr_8 (by decide)) (fA_call (fA_rf [] _) fa_9 (by decide)) rfl rfl), trivial⟩, ⟨by rw [ht]; exact hP, va_K.moved hW.alike hK⟩⟩, hS.F ht⟩) hS.2.2 dX12_tried_25
