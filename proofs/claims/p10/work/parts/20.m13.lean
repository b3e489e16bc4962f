theorem dX12_bylaw_0 : decode cX12_bylaw 0 = .ok (.aload_n 0, 1) := by decide +kernel
theorem dX12_bylaw_1 : decode cX12_bylaw 1 = .ok (.iconst 0, 1) := by decide +kernel
theorem dX12_bylaw_2 : decode cX12_bylaw 2 = .ok (.putfield 204, 3) := by decide +kernel
theorem dX12_bylaw_5 : decode cX12_bylaw 5 = .ok (.aload_n 0, 1) := by decide +kernel
theorem dX12_bylaw_6 : decode cX12_bylaw 6 = .ok (.aload_n 0, 1) := by decide +kernel
theorem dX12_bylaw_7 : decode cX12_bylaw 7 = .ok (.invokevirtual 240, 3) := by decide +kernel
theorem dX12_bylaw_10 : decode cX12_bylaw 10 = .ok (.putfield 279, 3) := by decide +kernel
theorem dX12_bylaw_13 : decode cX12_bylaw 13 = .ok (.aload_n 0, 1) := by decide +kernel
theorem dX12_bylaw_14 : decode cX12_bylaw 14 = .ok (.getfield 394, 3) := by decide +kernel
theorem dX12_bylaw_17 : decode cX12_bylaw 17 = .ok (.bipush 10, 2) := by decide +kernel
theorem dX12_bylaw_19 : decode cX12_bylaw 19 = .ok (.if_icmp .eq 17, 3) := by decide +kernel
theorem dX12_bylaw_22 : decode cX12_bylaw 22 = .ok (.iload_n 1, 1) := by decide +kernel
theorem dX12_bylaw_23 : decode cX12_bylaw 23 = .ok (.aload_n 0, 1) := by decide +kernel
theorem dX12_bylaw_24 : decode cX12_bylaw 24 = .ok (.getfield 218, 3) := by decide +kernel
theorem dX12_bylaw_27 : decode cX12_bylaw 27 = .ok (.sipush 199, 3) := by decide +kernel
theorem dX12_bylaw_30 : decode cX12_bylaw 30 = .ok (.invokestatic 214, 3) := by decide +kernel
theorem dX12_bylaw_33 : decode cX12_bylaw 33 = .ok (.ifCond .ne 7, 3) := by decide +kernel
theorem dX12_bylaw_36 : decode cX12_bylaw 36 = .ok (.sipush (-1000), 3) := by decide +kernel
theorem dX12_bylaw_39 : decode cX12_bylaw 39 = .ok (.ireturn, 1) := by decide +kernel
theorem dX12_bylaw_40 : decode cX12_bylaw 40 = .ok (.aload_n 0, 1) := by decide +kernel
theorem dX12_bylaw_41 : decode cX12_bylaw 41 = .ok (.iconst 0, 1) := by decide +kernel
theorem dX12_bylaw_42 : decode cX12_bylaw 42 = .ok (.putfield 317, 3) := by decide +kernel
theorem dX12_bylaw_45 : decode cX12_bylaw 45 = .ok (.aload_n 0, 1) := by decide +kernel
theorem dX12_bylaw_46 : decode cX12_bylaw 46 = .ok (.iconst 0, 1) := by decide +kernel
theorem dX12_bylaw_47 : decode cX12_bylaw 47 = .ok (.putfield 388, 3) := by decide +kernel
theorem dX12_bylaw_50 : decode cX12_bylaw 50 = .ok (.aload_n 0, 1) := by decide +kernel
theorem dX12_bylaw_51 : decode cX12_bylaw 51 = .ok (.iconst 0, 1) := by decide +kernel
theorem dX12_bylaw_52 : decode cX12_bylaw 52 = .ok (.putfield 385, 3) := by decide +kernel
theorem dX12_bylaw_55 : decode cX12_bylaw 55 = .ok (.aload_n 0, 1) := by decide +kernel
theorem dX12_bylaw_56 : decode cX12_bylaw 56 = .ok (.iconst 0, 1) := by decide +kernel
theorem dX12_bylaw_57 : decode cX12_bylaw 57 = .ok (.putfield 337, 3) := by decide +kernel
theorem dX12_bylaw_60 : decode cX12_bylaw 60 = .ok (.aload_n 0, 1) := by decide +kernel
theorem dX12_bylaw_61 : decode cX12_bylaw 61 = .ok (.iconst 0, 1) := by decide +kernel
theorem dX12_bylaw_62 : decode cX12_bylaw 62 = .ok (.putfield 360, 3) := by decide +kernel
theorem dX12_bylaw_65 : decode cX12_bylaw 65 = .ok (.aload_n 0, 1) := by decide +kernel
theorem dX12_bylaw_66 : decode cX12_bylaw 66 = .ok (.iconst 0, 1) := by decide +kernel
theorem dX12_bylaw_67 : decode cX12_bylaw 67 = .ok (.putfield 363, 3) := by decide +kernel
theorem dX12_bylaw_70 : decode cX12_bylaw 70 = .ok (.aload_n 0, 1) := by decide +kernel
theorem dX12_bylaw_71 : decode cX12_bylaw 71 = .ok (.getfield 91, 3) := by decide +kernel
theorem dX12_bylaw_74 : decode cX12_bylaw 74 = .ok (.bipush 10, 2) := by decide +kernel
theorem dX12_bylaw_76 : decode cX12_bylaw 76 = .ok (.iconst 0, 1) := by decide +kernel
theorem dX12_bylaw_77 : decode cX12_bylaw 77 = .ok (.iastore, 1) := by decide +kernel
theorem dX12_bylaw_78 : decode cX12_bylaw 78 = .ok (.aload_n 0, 1) := by decide +kernel
theorem dX12_bylaw_79 : decode cX12_bylaw 79 = .ok (.iconst 0, 1) := by decide +kernel
theorem dX12_bylaw_80 : decode cX12_bylaw 80 = .ok (.putfield 282, 3) := by decide +kernel
theorem dX12_bylaw_83 : decode cX12_bylaw 83 = .ok (.aload_n 0, 1) := by decide +kernel
theorem dX12_bylaw_84 : decode cX12_bylaw 84 = .ok (.invokevirtual 366, 3) := by decide +kernel
theorem dX12_bylaw_87 : decode cX12_bylaw 87 = .ok (.aload_n 0, 1) := by decide +kernel
theorem dX12_bylaw_88 : decode cX12_bylaw 88 = .ok (.getfield 288, 3) := by decide +kernel
theorem dX12_bylaw_91 : decode cX12_bylaw 91 = .ok (.ifCond .eq 24, 3) := by decide +kernel
theorem dX12_bylaw_94 : decode cX12_bylaw 94 = .ok (.aload_n 0, 1) := by decide +kernel
theorem dX12_bylaw_95 : decode cX12_bylaw 95 = .ok (.invokevirtual 397, 3) := by decide +kernel
theorem dX12_bylaw_98 : decode cX12_bylaw 98 = .ok (.ifCond .ne 10, 3) := by decide +kernel
theorem dX12_bylaw_101 : decode cX12_bylaw 101 = .ok (.iconst (-1), 1) := by decide +kernel
theorem dX12_bylaw_102 : decode cX12_bylaw 102 = .ok (.aload_n 0, 1) := by decide +kernel
theorem dX12_bylaw_103 : decode cX12_bylaw 103 = .ok (.getfield 320, 3) := by decide +kernel
theorem dX12_bylaw_106 : decode cX12_bylaw 106 = .ok (.isub, 1) := by decide +kernel
theorem dX12_bylaw_107 : decode cX12_bylaw 107 = .ok (.ireturn, 1) := by decide +kernel
theorem dX12_bylaw_108 : decode cX12_bylaw 108 = .ok (.aload_n 0, 1) := by decide +kernel
theorem dX12_bylaw_109 : decode cX12_bylaw 109 = .ok (.invokevirtual 366, 3) := by decide +kernel
theorem dX12_bylaw_112 : decode cX12_bylaw 112 = .ok (.goto (-25), 3) := by decide +kernel
theorem dX12_bylaw_115 : decode cX12_bylaw 115 = .ok (.aload_n 0, 1) := by decide +kernel
theorem dX12_bylaw_116 : decode cX12_bylaw 116 = .ok (.getfield 88, 3) := by decide +kernel
theorem dX12_bylaw_119 : decode cX12_bylaw 119 = .ok (.aload_n 0, 1) := by decide +kernel
theorem dX12_bylaw_120 : decode cX12_bylaw 120 = .ok (.getfield 394, 3) := by decide +kernel
theorem dX12_bylaw_123 : decode cX12_bylaw 123 = .ok (.aload_n 0, 1) := by decide +kernel
theorem dX12_bylaw_124 : decode cX12_bylaw 124 = .ok (.getfield 385, 3) := by decide +kernel
theorem dX12_bylaw_127 : decode cX12_bylaw 127 = .ok (.iastore, 1) := by decide +kernel
theorem dX12_bylaw_128 : decode cX12_bylaw 128 = .ok (.aload_n 0, 1) := by decide +kernel
theorem dX12_bylaw_129 : decode cX12_bylaw 129 = .ok (.getfield 91, 3) := by decide +kernel
theorem dX12_bylaw_132 : decode cX12_bylaw 132 = .ok (.aload_n 0, 1) := by decide +kernel
theorem dX12_bylaw_133 : decode cX12_bylaw 133 = .ok (.getfield 394, 3) := by decide +kernel
theorem dX12_bylaw_136 : decode cX12_bylaw 136 = .ok (.aload_n 0, 1) := by decide +kernel
theorem dX12_bylaw_137 : decode cX12_bylaw 137 = .ok (.getfield 91, 3) := by decide +kernel
theorem dX12_bylaw_140 : decode cX12_bylaw 140 = .ok (.bipush 10, 2) := by decide +kernel
theorem dX12_bylaw_142 : decode cX12_bylaw 142 = .ok (.iaload, 1) := by decide +kernel
theorem dX12_bylaw_143 : decode cX12_bylaw 143 = .ok (.iastore, 1) := by decide +kernel
theorem dX12_bylaw_144 : decode cX12_bylaw 144 = .ok (.aload_n 0, 1) := by decide +kernel
theorem dX12_bylaw_145 : decode cX12_bylaw 145 = .ok (.getfield 94, 3) := by decide +kernel
theorem dX12_bylaw_148 : decode cX12_bylaw 148 = .ok (.aload_n 0, 1) := by decide +kernel
theorem dX12_bylaw_149 : decode cX12_bylaw 149 = .ok (.getfield 394, 3) := by decide +kernel
theorem dX12_bylaw_152 : decode cX12_bylaw 152 = .ok (.iload_n 1, 1) := by decide +kernel
theorem dX12_bylaw_153 : decode cX12_bylaw 153 = .ok (.iastore, 1) := by decide +kernel
theorem dX12_bylaw_154 : decode cX12_bylaw 154 = .ok (.iconst 0, 1) := by decide +kernel
theorem dX12_bylaw_155 : decode cX12_bylaw 155 = .ok (.istore_n 2, 1) := by decide +kernel
theorem dX12_bylaw_156 : decode cX12_bylaw 156 = .ok (.iload_n 2, 1) := by decide +kernel
theorem dX12_bylaw_157 : decode cX12_bylaw 157 = .ok (.aload_n 0, 1) := by decide +kernel
theorem dX12_bylaw_158 : decode cX12_bylaw 158 = .ok (.getfield 385, 3) := by decide +kernel
theorem dX12_bylaw_161 : decode cX12_bylaw 161 = .ok (.if_icmp .ge 105, 3) := by decide +kernel
theorem dX12_bylaw_164 : decode cX12_bylaw 164 = .ok (.aload_n 0, 1) := by decide +kernel
theorem dX12_bylaw_165 : decode cX12_bylaw 165 = .ok (.getfield 97, 3) := by decide +kernel
theorem dX12_bylaw_168 : decode cX12_bylaw 168 = .ok (.bipush 16, 2) := by decide +kernel
theorem dX12_bylaw_170 : decode cX12_bylaw 170 = .ok (.aload_n 0, 1) := by decide +kernel
theorem dX12_bylaw_171 : decode cX12_bylaw 171 = .ok (.getfield 394, 3) := by decide +kernel
theorem dX12_bylaw_174 : decode cX12_bylaw 174 = .ok (.imul, 1) := by decide +kernel
theorem dX12_bylaw_175 : decode cX12_bylaw 175 = .ok (.iload_n 2, 1) := by decide +kernel
theorem dX12_bylaw_176 : decode cX12_bylaw 176 = .ok (.iadd, 1) := by decide +kernel
theorem dX12_bylaw_177 : decode cX12_bylaw 177 = .ok (.aload_n 0, 1) := by decide +kernel
theorem dX12_bylaw_178 : decode cX12_bylaw 178 = .ok (.getfield 97, 3) := by decide +kernel
theorem dX12_bylaw_181 : decode cX12_bylaw 181 = .ok (.sipush 160, 3) := by decide +kernel
theorem dX12_bylaw_184 : decode cX12_bylaw 184 = .ok (.iload_n 2, 1) := by decide +kernel
theorem dX12_bylaw_185 : decode cX12_bylaw 185 = .ok (.iadd, 1) := by decide +kernel
theorem dX12_bylaw_186 : decode cX12_bylaw 186 = .ok (.iaload, 1) := by decide +kernel
theorem dX12_bylaw_187 : decode cX12_bylaw 187 = .ok (.iastore, 1) := by decide +kernel
theorem dX12_bylaw_188 : decode cX12_bylaw 188 = .ok (.aload_n 0, 1) := by decide +kernel
theorem dX12_bylaw_189 : decode cX12_bylaw 189 = .ok (.getfield 100, 3) := by decide +kernel
theorem dX12_bylaw_192 : decode cX12_bylaw 192 = .ok (.bipush 16, 2) := by decide +kernel
theorem dX12_bylaw_194 : decode cX12_bylaw 194 = .ok (.aload_n 0, 1) := by decide +kernel
theorem dX12_bylaw_195 : decode cX12_bylaw 195 = .ok (.getfield 394, 3) := by decide +kernel
theorem dX12_bylaw_198 : decode cX12_bylaw 198 = .ok (.imul, 1) := by decide +kernel
theorem dX12_bylaw_199 : decode cX12_bylaw 199 = .ok (.iload_n 2, 1) := by decide +kernel
theorem dX12_bylaw_200 : decode cX12_bylaw 200 = .ok (.iadd, 1) := by decide +kernel
theorem dX12_bylaw_201 : decode cX12_bylaw 201 = .ok (.aload_n 0, 1) := by decide +kernel
theorem dX12_bylaw_202 : decode cX12_bylaw 202 = .ok (.getfield 100, 3) := by decide +kernel
theorem dX12_bylaw_205 : decode cX12_bylaw 205 = .ok (.sipush 160, 3) := by decide +kernel
theorem dX12_bylaw_208 : decode cX12_bylaw 208 = .ok (.iload_n 2, 1) := by decide +kernel
theorem dX12_bylaw_209 : decode cX12_bylaw 209 = .ok (.iadd, 1) := by decide +kernel
theorem dX12_bylaw_210 : decode cX12_bylaw 210 = .ok (.iaload, 1) := by decide +kernel
theorem dX12_bylaw_211 : decode cX12_bylaw 211 = .ok (.iastore, 1) := by decide +kernel
theorem dX12_bylaw_212 : decode cX12_bylaw 212 = .ok (.aload_n 0, 1) := by decide +kernel
theorem dX12_bylaw_213 : decode cX12_bylaw 213 = .ok (.getfield 103, 3) := by decide +kernel
theorem dX12_bylaw_216 : decode cX12_bylaw 216 = .ok (.bipush 16, 2) := by decide +kernel
theorem dX12_bylaw_218 : decode cX12_bylaw 218 = .ok (.aload_n 0, 1) := by decide +kernel
theorem dX12_bylaw_219 : decode cX12_bylaw 219 = .ok (.getfield 394, 3) := by decide +kernel
theorem dX12_bylaw_222 : decode cX12_bylaw 222 = .ok (.imul, 1) := by decide +kernel
theorem dX12_bylaw_223 : decode cX12_bylaw 223 = .ok (.iload_n 2, 1) := by decide +kernel
theorem dX12_bylaw_224 : decode cX12_bylaw 224 = .ok (.iadd, 1) := by decide +kernel
theorem dX12_bylaw_225 : decode cX12_bylaw 225 = .ok (.aload_n 0, 1) := by decide +kernel
theorem dX12_bylaw_226 : decode cX12_bylaw 226 = .ok (.getfield 103, 3) := by decide +kernel
theorem dX12_bylaw_229 : decode cX12_bylaw 229 = .ok (.sipush 160, 3) := by decide +kernel
theorem dX12_bylaw_232 : decode cX12_bylaw 232 = .ok (.iload_n 2, 1) := by decide +kernel
theorem dX12_bylaw_233 : decode cX12_bylaw 233 = .ok (.iadd, 1) := by decide +kernel
theorem dX12_bylaw_234 : decode cX12_bylaw 234 = .ok (.iaload, 1) := by decide +kernel
theorem dX12_bylaw_235 : decode cX12_bylaw 235 = .ok (.iastore, 1) := by decide +kernel
theorem dX12_bylaw_236 : decode cX12_bylaw 236 = .ok (.aload_n 0, 1) := by decide +kernel
theorem dX12_bylaw_237 : decode cX12_bylaw 237 = .ok (.getfield 106, 3) := by decide +kernel
theorem dX12_bylaw_240 : decode cX12_bylaw 240 = .ok (.bipush 16, 2) := by decide +kernel
theorem dX12_bylaw_242 : decode cX12_bylaw 242 = .ok (.aload_n 0, 1) := by decide +kernel
theorem dX12_bylaw_243 : decode cX12_bylaw 243 = .ok (.getfield 394, 3) := by decide +kernel
theorem dX12_bylaw_246 : decode cX12_bylaw 246 = .ok (.imul, 1) := by decide +kernel
theorem dX12_bylaw_247 : decode cX12_bylaw 247 = .ok (.iload_n 2, 1) := by decide +kernel
theorem dX12_bylaw_248 : decode cX12_bylaw 248 = .ok (.iadd, 1) := by decide +kernel
theorem dX12_bylaw_249 : decode cX12_bylaw 249 = .ok (.aload_n 0, 1) := by decide +kernel
theorem dX12_bylaw_250 : decode cX12_bylaw 250 = .ok (.getfield 106, 3) := by decide +kernel
theorem dX12_bylaw_253 : decode cX12_bylaw 253 = .ok (.sipush 160, 3) := by decide +kernel
theorem dX12_bylaw_256 : decode cX12_bylaw 256 = .ok (.iload_n 2, 1) := by decide +kernel
theorem dX12_bylaw_257 : decode cX12_bylaw 257 = .ok (.iadd, 1) := by decide +kernel
theorem dX12_bylaw_258 : decode cX12_bylaw 258 = .ok (.iaload, 1) := by decide +kernel
theorem dX12_bylaw_259 : decode cX12_bylaw 259 = .ok (.iastore, 1) := by decide +kernel
theorem dX12_bylaw_260 : decode cX12_bylaw 260 = .ok (.iinc 2 1, 3) := by decide +kernel
theorem dX12_bylaw_263 : decode cX12_bylaw 263 = .ok (.goto (-107), 3) := by decide +kernel
theorem dX12_bylaw_266 : decode cX12_bylaw 266 = .ok (.iconst 0, 1) := by decide +kernel
theorem dX12_bylaw_267 : decode cX12_bylaw 267 = .ok (.istore_n 2, 1) := by decide +kernel
theorem dX12_bylaw_268 : decode cX12_bylaw 268 = .ok (.iload_n 2, 1) := by decide +kernel
theorem dX12_bylaw_269 : decode cX12_bylaw 269 = .ok (.aload_n 0, 1) := by decide +kernel
theorem dX12_bylaw_270 : decode cX12_bylaw 270 = .ok (.getfield 337, 3) := by decide +kernel
theorem dX12_bylaw_273 : decode cX12_bylaw 273 = .ok (.if_icmp .ge 81, 3) := by decide +kernel
theorem dX12_bylaw_276 : decode cX12_bylaw 276 = .ok (.aload_n 0, 1) := by decide +kernel
theorem dX12_bylaw_277 : decode cX12_bylaw 277 = .ok (.getfield 109, 3) := by decide +kernel
theorem dX12_bylaw_280 : decode cX12_bylaw 280 = .ok (.bipush 120, 2) := by decide +kernel
theorem dX12_bylaw_282 : decode cX12_bylaw 282 = .ok (.aload_n 0, 1) := by decide +kernel
theorem dX12_bylaw_283 : decode cX12_bylaw 283 = .ok (.getfield 394, 3) := by decide +kernel
theorem dX12_bylaw_286 : decode cX12_bylaw 286 = .ok (.imul, 1) := by decide +kernel
theorem dX12_bylaw_287 : decode cX12_bylaw 287 = .ok (.iload_n 2, 1) := by decide +kernel
theorem dX12_bylaw_288 : decode cX12_bylaw 288 = .ok (.iadd, 1) := by decide +kernel
theorem dX12_bylaw_289 : decode cX12_bylaw 289 = .ok (.aload_n 0, 1) := by decide +kernel
theorem dX12_bylaw_290 : decode cX12_bylaw 290 = .ok (.getfield 109, 3) := by decide +kernel
theorem dX12_bylaw_293 : decode cX12_bylaw 293 = .ok (.sipush 1200, 3) := by decide +kernel
theorem dX12_bylaw_296 : decode cX12_bylaw 296 = .ok (.iload_n 2, 1) := by decide +kernel
theorem dX12_bylaw_297 : decode cX12_bylaw 297 = .ok (.iadd, 1) := by decide +kernel
theorem dX12_bylaw_298 : decode cX12_bylaw 298 = .ok (.iaload, 1) := by decide +kernel
theorem dX12_bylaw_299 : decode cX12_bylaw 299 = .ok (.iastore, 1) := by decide +kernel
theorem dX12_bylaw_300 : decode cX12_bylaw 300 = .ok (.aload_n 0, 1) := by decide +kernel
theorem dX12_bylaw_301 : decode cX12_bylaw 301 = .ok (.getfield 112, 3) := by decide +kernel
theorem dX12_bylaw_304 : decode cX12_bylaw 304 = .ok (.bipush 120, 2) := by decide +kernel
theorem dX12_bylaw_306 : decode cX12_bylaw 306 = .ok (.aload_n 0, 1) := by decide +kernel
theorem dX12_bylaw_307 : decode cX12_bylaw 307 = .ok (.getfield 394, 3) := by decide +kernel
theorem dX12_bylaw_310 : decode cX12_bylaw 310 = .ok (.imul, 1) := by decide +kernel
theorem dX12_bylaw_311 : decode cX12_bylaw 311 = .ok (.iload_n 2, 1) := by decide +kernel
theorem dX12_bylaw_312 : decode cX12_bylaw 312 = .ok (.iadd, 1) := by decide +kernel
theorem dX12_bylaw_313 : decode cX12_bylaw 313 = .ok (.aload_n 0, 1) := by decide +kernel
theorem dX12_bylaw_314 : decode cX12_bylaw 314 = .ok (.getfield 112, 3) := by decide +kernel
theorem dX12_bylaw_317 : decode cX12_bylaw 317 = .ok (.sipush 1200, 3) := by decide +kernel
theorem dX12_bylaw_320 : decode cX12_bylaw 320 = .ok (.iload_n 2, 1) := by decide +kernel
theorem dX12_bylaw_321 : decode cX12_bylaw 321 = .ok (.iadd, 1) := by decide +kernel
theorem dX12_bylaw_322 : decode cX12_bylaw 322 = .ok (.iaload, 1) := by decide +kernel
theorem dX12_bylaw_323 : decode cX12_bylaw 323 = .ok (.iastore, 1) := by decide +kernel
theorem dX12_bylaw_324 : decode cX12_bylaw 324 = .ok (.aload_n 0, 1) := by decide +kernel
theorem dX12_bylaw_325 : decode cX12_bylaw 325 = .ok (.getfield 115, 3) := by decide +kernel
theorem dX12_bylaw_328 : decode cX12_bylaw 328 = .ok (.bipush 120, 2) := by decide +kernel
theorem dX12_bylaw_330 : decode cX12_bylaw 330 = .ok (.aload_n 0, 1) := by decide +kernel
theorem dX12_bylaw_331 : decode cX12_bylaw 331 = .ok (.getfield 394, 3) := by decide +kernel
theorem dX12_bylaw_334 : decode cX12_bylaw 334 = .ok (.imul, 1) := by decide +kernel
theorem dX12_bylaw_335 : decode cX12_bylaw 335 = .ok (.iload_n 2, 1) := by decide +kernel
theorem dX12_bylaw_336 : decode cX12_bylaw 336 = .ok (.iadd, 1) := by decide +kernel
theorem dX12_bylaw_337 : decode cX12_bylaw 337 = .ok (.aload_n 0, 1) := by decide +kernel
theorem dX12_bylaw_338 : decode cX12_bylaw 338 = .ok (.getfield 115, 3) := by decide +kernel
theorem dX12_bylaw_341 : decode cX12_bylaw 341 = .ok (.sipush 1200, 3) := by decide +kernel
theorem dX12_bylaw_344 : decode cX12_bylaw 344 = .ok (.iload_n 2, 1) := by decide +kernel
theorem dX12_bylaw_345 : decode cX12_bylaw 345 = .ok (.iadd, 1) := by decide +kernel
theorem dX12_bylaw_346 : decode cX12_bylaw 346 = .ok (.iaload, 1) := by decide +kernel
theorem dX12_bylaw_347 : decode cX12_bylaw 347 = .ok (.iastore, 1) := by decide +kernel
theorem dX12_bylaw_348 : decode cX12_bylaw 348 = .ok (.iinc 2 1, 3) := by decide +kernel
theorem dX12_bylaw_351 : decode cX12_bylaw 351 = .ok (.goto (-83), 3) := by decide +kernel
theorem dX12_bylaw_354 : decode cX12_bylaw 354 = .ok (.aload_n 0, 1) := by decide +kernel
theorem dX12_bylaw_355 : decode cX12_bylaw 355 = .ok (.dup, 1) := by decide +kernel
theorem dX12_bylaw_356 : decode cX12_bylaw 356 = .ok (.getfield 394, 3) := by decide +kernel
theorem dX12_bylaw_359 : decode cX12_bylaw 359 = .ok (.iconst 1, 1) := by decide +kernel
theorem dX12_bylaw_360 : decode cX12_bylaw 360 = .ok (.iadd, 1) := by decide +kernel
theorem dX12_bylaw_361 : decode cX12_bylaw 361 = .ok (.putfield 394, 3) := by decide +kernel
theorem dX12_bylaw_364 : decode cX12_bylaw 364 = .ok (.aload_n 0, 1) := by decide +kernel
theorem dX12_bylaw_365 : decode cX12_bylaw 365 = .ok (.getfield 385, 3) := by decide +kernel
theorem dX12_bylaw_368 : decode cX12_bylaw 368 = .ok (.ireturn, 1) := by decide +kernel
theorem cp_st {g g1 : Nat → Int32} {B k Z : Nat} {x : Int32} (h : ∀ j, j < k → g (B + j) = g (Z + j)) (e : g1 = upd g (B + k) x) (hx : x = g (Z + k)) (hB : B + k < Z) : ∀ j, j < k + 1 → g1 (B + j) = g1 (Z + j) := by
  intro j hj
  rw [e, up_ne (i := Z + j) (by omega)]
  rcases Nat.lt_or_ge j k with c | c
  · rw [up_ne (by omega)]; exact h j c
  · rw [show j = k from by omega, up_eq]; exact hx
