theorem dX12_bylaw_0 : decode cX12_bylaw 0 = .ok (.aload_n 0, 1) := by decide +kernel
theorem dX12_bylaw_1 : decode cX12_bylaw 1 = .ok (.iconst 0, 1) := by decide +kernel
theorem dX12_bylaw_2 : decode cX12_bylaw 2 = .ok (.putfield 204, 3) := by decide +kernel
theorem dX12_bylaw_5 : decode cX12_bylaw 5 = .ok (.aload_n 0, 1) := by decide +kernel
theorem dX12_bylaw_6 : decode cX12_bylaw 6 = .ok (.aload_n 0, 1) := by decide +kernel
theorem dX12_bylaw_7 : decode cX12_bylaw 7 = .ok (.invokevirtual 240, 3) := by decide +kernel
theorem dX12_bylaw_10 : decode cX12_bylaw 10 = .ok (.putfield 279, 3) := by decide +kernel
theorem dX12_bylaw_13 : decode cX12_bylaw 13 = .ok (.aload_n 0, 1) := by decide +kernel
theorem dX12_bylaw_14 : decode cX12_bylaw 14 = .ok (.getfield 394, 3) := by decide +kernel
theorem dX12_bylaw_17 : decode cX12_bylaw 17 = .ok (.bipush 10, 2) := by decide +kernel
theorem dX12_bylaw_19 : decode cX12_bylaw 19 = .ok (.if_icmp .eq 17, 3) := by decide +kernel
theorem dX12_bylaw_22 : decode cX12_bylaw 22 = .ok (.iload_n 1, 1) := by decide +kernel
theorem dX12_bylaw_23 : decode cX12_bylaw 23 = .ok (.aload_n 0, 1) := by decide +kernel
theorem dX12_bylaw_24 : decode cX12_bylaw 24 = .ok (.getfield 218, 3) := by decide +kernel
theorem dX12_bylaw_27 : decode cX12_bylaw 27 = .ok (.sipush 199, 3) := by decide +kernel
theorem dX12_bylaw_30 : decode cX12_bylaw 30 = .ok (.invokestatic 214, 3) := by decide +kernel
theorem dX12_bylaw_33 : decode cX12_bylaw 33 = .ok (.ifCond .ne 7, 3) := by decide +kernel
theorem dX12_bylaw_36 : decode cX12_bylaw 36 = .ok (.sipush (-1000), 3) := by decide +kernel
theorem dX12_bylaw_39 : decode cX12_bylaw 39 = .ok (.ireturn, 1) := by decide +kernel
theorem dX12_bylaw_40 : decode cX12_bylaw 40 = .ok (.aload_n 0, 1) := by decide +kernel
theorem dX12_bylaw_41 : decode cX12_bylaw 41 = .ok (.iconst 0, 1) := by decide +kernel
theorem dX12_bylaw_42 : decode cX12_bylaw 42 = .ok (.putfield 317, 3) := by decide +kernel
theorem dX12_bylaw_45 : decode cX12_bylaw 45 = .ok (.aload_n 0, 1) := by decide +kernel
theorem dX12_bylaw_46 : decode cX12_bylaw 46 = .ok (.iconst 0, 1) := by decide +kernel
theorem dX12_bylaw_47 : decode cX12_bylaw 47 = .ok (.putfield 388, 3) := by decide +kernel
theorem dX12_bylaw_50 : decode cX12_bylaw 50 = .ok (.aload_n 0, 1) := by decide +kernel
theorem dX12_bylaw_51 : decode cX12_bylaw 51 = .ok (.iconst 0, 1) := by decide +kernel
theorem dX12_bylaw_52 : decode cX12_bylaw 52 = .ok (.putfield 385, 3) := by decide +kernel
theorem dX12_bylaw_55 : decode cX12_bylaw 55 = .ok (.aload_n 0, 1) := by decide +kernel
theorem dX12_bylaw_56 : decode cX12_bylaw 56 = .ok (.iconst 0, 1) := by decide +kernel
theorem dX12_bylaw_57 : decode cX12_bylaw 57 = .ok (.putfield 337, 3) := by decide +kernel
theorem dX12_bylaw_60 : decode cX12_bylaw 60 = .ok (.aload_n 0, 1) := by decide +kernel
theorem dX12_bylaw_61 : decode cX12_bylaw 61 = .ok (.iconst 0, 1) := by decide +kernel
theorem dX12_bylaw_62 : decode cX12_bylaw 62 = .ok (.putfield 360, 3) := by decide +kernel
theorem dX12_bylaw_65 : decode cX12_bylaw 65 = .ok (.aload_n 0, 1) := by decide +kernel
theorem dX12_bylaw_66 : decode cX12_bylaw 66 = .ok (.iconst 0, 1) := by decide +kernel
theorem dX12_bylaw_67 : decode cX12_bylaw 67 = .ok (.putfield 363, 3) := by decide +kernel
theorem dX12_bylaw_70 : decode cX12_bylaw 70 = .ok (.aload_n 0, 1) := by decide +kernel
theorem dX12_bylaw_71 : decode cX12_bylaw 71 = .ok (.getfield 91, 3) := by decide +kernel
theorem dX12_bylaw_74 : decode cX12_bylaw 74 = .ok (.bipush 10, 2) := by decide +kernel
theorem dX12_bylaw_76 : decode cX12_bylaw 76 = .ok (.iconst 0, 1) := by decide +kernel
theorem dX12_bylaw_77 : decode cX12_bylaw 77 = .ok (.iastore, 1) := by decide +kernel
theorem dX12_bylaw_78 : decode cX12_bylaw 78 = .ok (.aload_n 0, 1) := by decide +kernel
theorem dX12_bylaw_79 : decode cX12_bylaw 79 = .ok (.iconst 0, 1) := by decide +kernel
theorem dX12_bylaw_80 : decode cX12_bylaw 80 = .ok (.putfield 282, 3) := by decide +kernel
theorem dX12_bylaw_83 : decode cX12_bylaw 83 = .ok (.aload_n 0, 1) := by decide +kernel
theorem dX12_bylaw_84 : decode cX12_bylaw 84 = .ok (.invokevirtual 366, 3) := by decide +kernel
theorem dX12_bylaw_87 : decode cX12_bylaw 87 = .ok (.aload_n 0, 1) := by decide +kernel
theorem dX12_bylaw_88 : decode cX12_bylaw 88 = .ok (.getfield 288, 3) := by decide +kernel
theorem dX12_bylaw_91 : decode cX12_bylaw 91 = .ok (.ifCond .eq 24, 3) := by decide +kernel
theorem dX12_bylaw_94 : decode cX12_bylaw 94 = .ok (.aload_n 0, 1) := by decide +kernel
theorem dX12_bylaw_95 : decode cX12_bylaw 95 = .ok (.invokevirtual 397, 3) := by decide +kernel
theorem dX12_bylaw_98 : decode cX12_bylaw 98 = .ok (.ifCond .ne 10, 3) := by decide +kernel
theorem dX12_bylaw_101 : decode cX12_bylaw 101 = .ok (.iconst (-1), 1) := by decide +kernel
theorem dX12_bylaw_102 : decode cX12_bylaw 102 = .ok (.aload_n 0, 1) := by decide +kernel
theorem dX12_bylaw_103 : decode cX12_bylaw 103 = .ok (.getfield 320, 3) := by decide +kernel
theorem dX12_bylaw_106 : decode cX12_bylaw 106 = .ok (.isub, 1) := by decide +kernel
theorem dX12_bylaw_107 : decode cX12_bylaw 107 = .ok (.ireturn, 1) := by decide +kernel
theorem dX12_bylaw_108 : decode cX12_bylaw 108 = .ok (.aload_n 0, 1) := by decide +kernel
theorem dX12_bylaw_109 : decode cX12_bylaw 109 = .ok (.invokevirtual 366, 3) := by decide +kernel
theorem dX12_bylaw_112 : decode cX12_bylaw 112 = .ok (.goto (-25), 3) := by decide +kernel
theorem dX12_bylaw_115 : decode cX12_bylaw 115 = .ok (.aload_n 0, 1) := by decide +kernel
theorem dX12_bylaw_116 : decode cX12_bylaw 116 = .ok (.getfield 88, 3) := by decide +kernel
theorem dX12_bylaw_119 : decode cX12_bylaw 119 = .ok (.aload_n 0, 1) := by decide +kernel
theorem dX12_bylaw_120 : decode cX12_bylaw 120 = .ok (.getfield 394, 3) := by decide +kernel
theorem dX12_bylaw_123 : decode cX12_bylaw 123 = .ok (.aload_n 0, 1) := by decide +kernel
theorem dX12_bylaw_124 : decode cX12_bylaw 124 = .ok (.getfield 385, 3) := by decide +kernel
theorem dX12_bylaw_127 : decode cX12_bylaw 127 = .ok (.iastore, 1) := by decide +kernel
theorem dX12_bylaw_128 : decode cX12_bylaw 128 = .ok (.aload_n 0, 1) := by decide +kernel
theorem dX12_bylaw_129 : decode cX12_bylaw 129 = .ok (.getfield 91, 3) := by decide +kernel
theorem dX12_bylaw_132 : decode cX12_bylaw 132 = .ok (.aload_n 0, 1) := by decide +kernel
theorem dX12_bylaw_133 : decode cX12_bylaw 133 = .ok (.getfield 394, 3) := by decide +kernel
theorem dX12_bylaw_136 : decode cX12_bylaw 136 = .ok (.aload_n 0, 1) := by decide +kernel
theorem dX12_bylaw_137 : decode cX12_bylaw 137 = .ok (.getfield 91, 3) := by decide +kernel
theorem dX12_bylaw_140 : decode cX12_bylaw 140 = .ok (.bipush 10, 2) := by decide +kernel
theorem dX12_bylaw_142 : decode cX12_bylaw 142 = .ok (.iaload, 1) := by decide +kernel
theorem dX12_bylaw_143 : decode cX12_bylaw 143 = .ok (.iastore, 1) := by decide +kernel
theorem dX12_bylaw_144 : decode cX12_bylaw 144 = .ok (.aload_n 0, 1) := by decide +kernel
theorem dX12_bylaw_145 : decode cX12_bylaw 145 = .ok (.getfield 94, 3) := by decide +kernel
theorem dX12_bylaw_148 : decode cX12_bylaw 148 = .ok (.aload_n 0, 1) := by decide +kernel
theorem dX12_bylaw_149 : decode cX12_bylaw 149 = .ok (.getfield 394, 3) := by decide +kernel
theorem dX12_bylaw_152 : decode cX12_bylaw 152 = .ok (.iload_n 1, 1) := by decide +kernel
theorem dX12_bylaw_153 : decode cX12_bylaw 153 = .ok (.iastore, 1) := by decide +kernel
theorem dX12_bylaw_154 : decode cX12_bylaw 154 = .ok (.iconst 0, 1) := by decide +kernel
theorem dX12_bylaw_155 : decode cX12_bylaw 155 = .ok (.istore_n 2, 1) := by decide +kernel
theorem dX12_bylaw_156 : decode cX12_bylaw 156 = .ok (.iload_n 2, 1) := by decide +kernel
theorem dX12_bylaw_157 : decode cX12_bylaw 157 = .ok (.aload_n 0, 1) := by decide +kernel
theorem dX12_bylaw_158 : decode cX12_bylaw 158 = .ok (.getfield 385, 3) := by decide +kernel
theorem dX12_bylaw_161 : decode cX12_bylaw 161 = .ok (.if_icmp .ge 105, 3) := by decide +kernel
theorem dX12_bylaw_164 : decode cX12_bylaw 164 = .ok (.aload_n 0, 1) := by decide +kernel
theorem dX12_bylaw_165 : decode cX12_bylaw 165 = .ok (.getfield 97, 3) := by decide +kernel
theorem dX12_bylaw_168 : decode cX12_bylaw 168 = .ok (.bipush 16, 2) := by decide +kernel
theorem dX12_bylaw_170 : decode cX12_bylaw 170 = .ok (.aload_n 0, 1) := by decide +kernel
theorem dX12_bylaw_171 : decode cX12_bylaw 171 = .ok (.getfield 394, 3) := by decide +kernel
theorem dX12_bylaw_174 : decode cX12_bylaw 174 = .ok (.imul, 1) := by decide +kernel
theorem dX12_bylaw_175 : decode cX12_bylaw 175 = .ok (.iload_n 2, 1) := by decide +kernel
theorem dX12_bylaw_176 : decode cX12_bylaw 176 = .ok (.iadd, 1) := by decide +kernel
theorem dX12_bylaw_177 : decode cX12_bylaw 177 = .ok (.aload_n 0, 1) := by decide +kernel
theorem dX12_bylaw_178 : decode cX12_bylaw 178 = .ok (.getfield 97, 3) := by decide +kernel
theorem dX12_bylaw_181 : decode cX12_bylaw 181 = .ok (.sipush 160, 3) := by decide +kernel
theorem dX12_bylaw_184 : decode cX12_bylaw 184 = .ok (.iload_n 2, 1) := by decide +kernel
theorem dX12_bylaw_185 : decode cX12_bylaw 185 = .ok (.iadd, 1) := by decide +kernel
theorem dX12_bylaw_186 : decode cX12_bylaw 186 = .ok (.iaload, 1) := by decide +kernel
theorem dX12_bylaw_187 : decode cX12_bylaw 187 = .ok (.iastore, 1) := by decide +kernel
theorem dX12_bylaw_188 : decode cX12_bylaw 188 = .ok (.aload_n 0, 1) := by decide +kernel
theorem dX12_bylaw_189 : decode cX12_bylaw 189 = .ok (.getfield 100, 3) := by decide +kernel
theorem dX12_bylaw_192 : decode cX12_bylaw 192 = .ok (.bipush 16, 2) := by decide +kernel
theorem dX12_bylaw_194 : decode cX12_bylaw 194 = .ok (.aload_n 0, 1) := by decide +kernel
theorem dX12_bylaw_195 : decode cX12_bylaw 195 = .ok (.getfield 394, 3) := by decide +kernel
theorem dX12_bylaw_198 : decode cX12_bylaw 198 = .ok (.imul, 1) := by decide +kernel
theorem dX12_bylaw_199 : decode cX12_bylaw 199 = .ok (.iload_n 2, 1) := by decide +kernel
theorem dX12_bylaw_200 : decode cX12_bylaw 200 = .ok (.iadd, 1) := by decide +kernel
theorem dX12_bylaw_201 : decode cX12_bylaw 201 = .ok (.aload_n 0, 1) := by decide +kernel
theorem dX12_bylaw_202 : decode cX12_bylaw 202 = .ok (.getfield 100, 3) := by decide +kernel
theorem dX12_bylaw_205 : decode cX12_bylaw 205 = .ok (.sipush 160, 3) := by decide +kernel
theorem dX12_bylaw_208 : decode cX12_bylaw 208 = .ok (.iload_n 2, 1) := by decide +kernel
theorem dX12_bylaw_209 : decode cX12_bylaw 209 = .ok (.iadd, 1) := by decide +kernel
theorem dX12_bylaw_210 : decode cX12_bylaw 210 = .ok (.iaload, 1) := by decide +kernel
theorem dX12_bylaw_211 : decode cX12_bylaw 211 = .ok (.iastore, 1) := by decide +kernel
theorem dX12_bylaw_212 : decode cX12_bylaw 212 = .ok (.aload_n 0, 1) := by decide +kernel
theorem dX12_bylaw_213 : decode cX12_bylaw 213 = .ok (.getfield 103, 3) := by decide +kernel
theorem dX12_bylaw_216 : decode cX12_bylaw 216 = .ok (.bipush 16, 2) := by decide +kernel
theorem dX12_bylaw_218 : decode cX12_bylaw 218 = .ok (.aload_n 0, 1) := by decide +kernel
theorem dX12_bylaw_219 : decode cX12_bylaw 219 = .ok (.getfield 394, 3) := by decide +kernel
theorem dX12_bylaw_222 : decode cX12_bylaw 222 = .ok (.imul, 1) := by decide +kernel
theorem dX12_bylaw_223 : decode cX12_bylaw 223 = .ok (.iload_n 2, 1) := by decide +kernel
theorem dX12_bylaw_224 : decode cX12_bylaw 224 = .ok (.iadd, 1) := by decide +kernel
theorem dX12_bylaw_225 : decode cX12_bylaw 225 = .ok (.aload_n 0, 1) := by decide +kernel
theorem dX12_bylaw_226 : decode cX12_bylaw 226 = .ok (.getfield 103, 3) := by decide +kernel
theorem dX12_bylaw_229 : decode cX12_bylaw 229 = .ok (.sipush 160, 3) := by decide +kernel
theorem dX12_bylaw_232 : decode cX12_bylaw 232 = .ok (.iload_n 2, 1) := by decide +kernel
theorem dX12_bylaw_233 : decode cX12_bylaw 233 = .ok (.iadd, 1) := by decide +kernel
theorem dX12_bylaw_234 : decode cX12_bylaw 234 = .ok (.iaload, 1) := by decide +kernel
theorem dX12_bylaw_235 : decode cX12_bylaw 235 = .ok (.iastore, 1) := by decide +kernel
theorem dX12_bylaw_236 : decode cX12_bylaw 236 = .ok (.aload_n 0, 1) := by decide +kernel
theorem dX12_bylaw_237 : decode cX12_bylaw 237 = .ok (.getfield 106, 3) := by decide +kernel
theorem dX12_bylaw_240 : decode cX12_bylaw 240 = .ok (.bipush 16, 2) := by decide +kernel
theorem dX12_bylaw_242 : decode cX12_bylaw 242 = .ok (.aload_n 0, 1) := by decide +kernel
theorem dX12_bylaw_243 : decode cX12_bylaw 243 = .ok (.getfield 394, 3) := by decide +kernel
theorem dX12_bylaw_246 : decode cX12_bylaw 246 = .ok (.imul, 1) := by decide +kernel
theorem dX12_bylaw_247 : decode cX12_bylaw 247 = .ok (.iload_n 2, 1) := by decide +kernel
theorem dX12_bylaw_248 : decode cX12_bylaw 248 = .ok (.iadd, 1) := by decide +kernel
theorem dX12_bylaw_249 : decode cX12_bylaw 249 = .ok (.aload_n 0, 1) := by decide +kernel
theorem dX12_bylaw_250 : decode cX12_bylaw 250 = .ok (.getfield 106, 3) := by decide +kernel
theorem dX12_bylaw_253 : decode cX12_bylaw 253 = .ok (.sipush 160, 3) := by decide +kernel
theorem dX12_bylaw_256 : decode cX12_bylaw 256 = .ok (.iload_n 2, 1) := by decide +kernel
theorem dX12_bylaw_257 : decode cX12_bylaw 257 = .ok (.iadd, 1) := by decide +kernel
theorem dX12_bylaw_258 : decode cX12_bylaw 258 = .ok (.iaload, 1) := by decide +kernel
theorem dX12_bylaw_259 : decode cX12_bylaw 259 = .ok (.iastore, 1) := by decide +kernel
theorem dX12_bylaw_260 : decode cX12_bylaw 260 = .ok (.iinc 2 1, 3) := by decide +kernel
theorem dX12_bylaw_263 : decode cX12_bylaw 263 = .ok (.goto (-107), 3) := by decide +kernel
theorem dX12_bylaw_266 : decode cX12_bylaw 266 = .ok (.iconst 0, 1) := by decide +kernel
theorem dX12_bylaw_267 : decode cX12_bylaw 267 = .ok (.istore_n 2, 1) := by decide +kernel
theorem dX12_bylaw_268 : decode cX12_bylaw 268 = .ok (.iload_n 2, 1) := by decide +kernel
theorem dX12_bylaw_269 : decode cX12_bylaw 269 = .ok (.aload_n 0, 1) := by decide +kernel
theorem dX12_bylaw_270 : decode cX12_bylaw 270 = .ok (.getfield 337, 3) := by decide +kernel
theorem dX12_bylaw_273 : decode cX12_bylaw 273 = .ok (.if_icmp .ge 81, 3) := by decide +kernel
theorem dX12_bylaw_276 : decode cX12_bylaw 276 = .ok (.aload_n 0, 1) := by decide +kernel
theorem dX12_bylaw_277 : decode cX12_bylaw 277 = .ok (.getfield 109, 3) := by decide +kernel
theorem dX12_bylaw_280 : decode cX12_bylaw 280 = .ok (.bipush 120, 2) := by decide +kernel
theorem dX12_bylaw_282 : decode cX12_bylaw 282 = .ok (.aload_n 0, 1) := by decide +kernel
theorem dX12_bylaw_283 : decode cX12_bylaw 283 = .ok (.getfield 394, 3) := by decide +kernel
theorem dX12_bylaw_286 : decode cX12_bylaw 286 = .ok (.imul, 1) := by decide +kernel
theorem dX12_bylaw_287 : decode cX12_bylaw 287 = .ok (.iload_n 2, 1) := by decide +kernel
theorem dX12_bylaw_288 : decode cX12_bylaw 288 = .ok (.iadd, 1) := by decide +kernel
theorem dX12_bylaw_289 : decode cX12_bylaw 289 = .ok (.aload_n 0, 1) := by decide +kernel
theorem dX12_bylaw_290 : decode cX12_bylaw 290 = .ok (.getfield 109, 3) := by decide +kernel
theorem dX12_bylaw_293 : decode cX12_bylaw 293 = .ok (.sipush 1200, 3) := by decide +kernel
theorem dX12_bylaw_296 : decode cX12_bylaw 296 = .ok (.iload_n 2, 1) := by decide +kernel
theorem dX12_bylaw_297 : decode cX12_bylaw 297 = .ok (.iadd, 1) := by decide +kernel
theorem dX12_bylaw_298 : decode cX12_bylaw 298 = .ok (.iaload, 1) := by decide +kernel
theorem dX12_bylaw_299 : decode cX12_bylaw 299 = .ok (.iastore, 1) := by decide +kernel
theorem dX12_bylaw_300 : decode cX12_bylaw 300 = .ok (.aload_n 0, 1) := by decide +kernel
theorem dX12_bylaw_301 : decode cX12_bylaw 301 = .ok (.getfield 112, 3) := by decide +kernel
theorem dX12_bylaw_304 : decode cX12_bylaw 304 = .ok (.bipush 120, 2) := by decide +kernel
theorem dX12_bylaw_306 : decode cX12_bylaw 306 = .ok (.aload_n 0, 1) := by decide +kernel
theorem dX12_bylaw_307 : decode cX12_bylaw 307 = .ok (.getfield 394, 3) := by decide +kernel
theorem dX12_bylaw_310 : decode cX12_bylaw 310 = .ok (.imul, 1) := by decide +kernel
theorem dX12_bylaw_311 : decode cX12_bylaw 311 = .ok (.iload_n 2, 1) := by decide +kernel
theorem dX12_bylaw_312 : decode cX12_bylaw 312 = .ok (.iadd, 1) := by decide +kernel
theorem dX12_bylaw_313 : decode cX12_bylaw 313 = .ok (.aload_n 0, 1) := by decide +kernel
theorem dX12_bylaw_314 : decode cX12_bylaw 314 = .ok (.getfield 112, 3) := by decide +kernel
theorem dX12_bylaw_317 : decode cX12_bylaw 317 = .ok (.sipush 1200, 3) := by decide +kernel
theorem dX12_bylaw_320 : decode cX12_bylaw 320 = .ok (.iload_n 2, 1) := by decide +kernel
theorem dX12_bylaw_321 : decode cX12_bylaw 321 = .ok (.iadd, 1) := by decide +kernel
theorem dX12_bylaw_322 : decode cX12_bylaw 322 = .ok (.iaload, 1) := by decide +kernel
theorem dX12_bylaw_323 : decode cX12_bylaw 323 = .ok (.iastore, 1) := by decide +kernel
theorem dX12_bylaw_324 : decode cX12_bylaw 324 = .ok (.aload_n 0, 1) := by decide +kernel
theorem dX12_bylaw_325 : decode cX12_bylaw 325 = .ok (.getfield 115, 3) := by decide +kernel
theorem dX12_bylaw_328 : decode cX12_bylaw 328 = .ok (.bipush 120, 2) := by decide +kernel
theorem dX12_bylaw_330 : decode cX12_bylaw 330 = .ok (.aload_n 0, 1) := by decide +kernel
theorem dX12_bylaw_331 : decode cX12_bylaw 331 = .ok (.getfield 394, 3) := by decide +kernel
theorem dX12_bylaw_334 : decode cX12_bylaw 334 = .ok (.imul, 1) := by decide +kernel
theorem dX12_bylaw_335 : decode cX12_bylaw 335 = .ok (.iload_n 2, 1) := by decide +kernel
theorem dX12_bylaw_336 : decode cX12_bylaw 336 = .ok (.iadd, 1) := by decide +kernel
theorem dX12_bylaw_337 : decode cX12_bylaw 337 = .ok (.aload_n 0, 1) := by decide +kernel
theorem dX12_bylaw_338 : decode cX12_bylaw 338 = .ok (.getfield 115, 3) := by decide +kernel
theorem dX12_bylaw_341 : decode cX12_bylaw 341 = .ok (.sipush 1200, 3) := by decide +kernel
theorem dX12_bylaw_344 : decode cX12_bylaw 344 = .ok (.iload_n 2, 1) := by decide +kernel
theorem dX12_bylaw_345 : decode cX12_bylaw 345 = .ok (.iadd, 1) := by decide +kernel
theorem dX12_bylaw_346 : decode cX12_bylaw 346 = .ok (.iaload, 1) := by decide +kernel
theorem dX12_bylaw_347 : decode cX12_bylaw 347 = .ok (.iastore, 1) := by decide +kernel
theorem dX12_bylaw_348 : decode cX12_bylaw 348 = .ok (.iinc 2 1, 3) := by decide +kernel
theorem dX12_bylaw_351 : decode cX12_bylaw 351 = .ok (.goto (-83), 3) := by decide +kernel
theorem dX12_bylaw_354 : decode cX12_bylaw 354 = .ok (.aload_n 0, 1) := by decide +kernel
theorem dX12_bylaw_355 : decode cX12_bylaw 355 = .ok (.dup, 1) := by decide +kernel
theorem dX12_bylaw_356 : decode cX12_bylaw 356 = .ok (.getfield 394, 3) := by decide +kernel
theorem dX12_bylaw_359 : decode cX12_bylaw 359 = .ok (.iconst 1, 1) := by decide +kernel
theorem dX12_bylaw_360 : decode cX12_bylaw 360 = .ok (.iadd, 1) := by decide +kernel
theorem dX12_bylaw_361 : decode cX12_bylaw 361 = .ok (.putfield 394, 3) := by decide +kernel
theorem dX12_bylaw_364 : decode cX12_bylaw 364 = .ok (.aload_n 0, 1) := by decide +kernel
theorem dX12_bylaw_365 : decode cX12_bylaw 365 = .ok (.getfield 385, 3) := by decide +kernel
theorem dX12_bylaw_368 : decode cX12_bylaw 368 = .ok (.ireturn, 1) := by decide +kernel
theorem cp_st {g g1 : Nat → Int32} {B k Z : Nat} {x : Int32} (h : ∀ j, j < k → g (B + j) = g (Z + j)) (e : g1 = upd g (B + k) x) (hx : x = g (Z + k)) (hB : B + k < Z) : ∀ j, j < k + 1 → g1 (B + j) = g1 (Z + j) := by
  intro j hj
  rw [e, up_ne (i := Z + j) (by omega)]
  rcases Nat.lt_or_ge j k with c | c
  · rw [up_ne (by omega)]; exact h j c
  · rw [show j = k from by omega, up_eq]; exact hx
set_option maxHeartbeats 4000000 in
set_option maxRecDepth 100000 in
theorem m_bylaw (l : Launch) (dC : Nat → ClassId) (dI : Nat → Nat → Nat) (sz h : Nat) (ad : Nat → Nat) (cA : Nat → ClassId) (hd : dM h ad) (fv : Nat → Int32) (wd : Int64) (ar : Nat → Nat → Int32) (hF_fv : rF fv) (hA_ar : rA ar) (dd : Int32) (hp_vM : vM fv ar) : Met l yX12_bylaw (.code yX12_bylaw cX12_bylaw 3 (some .int) :: lw_good) ({ frames := 7, cells := 0, slots := 0, locals := 151 }) (va_Pc [.ref h, .int dd] (prM dC dI h ad cA fv wd ar sz)) (va_Qi (fun (r : Int32) (u : mS) => rF u.1 ∧ rA u.2.2 ∧ fM [0, 2, 37, 38, 39, 40, 41, 42, 43, 44, 45, 58, 59, 60, 61, 62, 63] fv u.1 ∧ fA [47, 48, 49, 50, 51, 52, 53, 54, 55, 56, 57] ar u.2.2 ∧ (vM u.1 u.2.2) ∧ True) (enM dC dI h ad cA) (aM h ad sz)) 0 0 (aM h ad sz) := by
  refine Met.ofW (cc := cX12_bylaw) (maxL := 3) (ret := (some .int)) (by decide) rfl ?_
  intro p e s m args below meth c s₁ B hml hv
  obtain ⟨rfl, hsz, hP, hK⟩ := hv
  have hx := B.exec
  have hb := B.bytes
  have hr := B.returns
  have hts := atoms_spec (ws := (.code yX12_bylaw cX12_bylaw 3 (some .int) :: lw_good)) B.pre
  have htg : ∀ w ∈ lw_good, w.before _ s = true := fun w hw => hts w (List.mem_cons_of_mem _ hw)
  have hown : s.vm.findClass RX12 = some m.cls := findClass_of_methodNamed B.named
  have hlocks := B.notSynchronized
  subst hsz
  have hS : va_S (aM h ad s.heap.size) s.heap s.heap [] := va_S.rf
  have hl := lv_entry ([.ref h, .int dd]) (n := 3) (Nat.le_of_ble_eq_true rfl)
  rw [lg_entry_eq]
  generalize (lg_sl ([.ref h, .int dd]) ++ List.replicate (3 - (lg_sl ([.ref h, .int dd])).length) Slot.unset).toArray = ls at hl ⊢
  have hl : lv_has ls 3 [(0, .ref h), (1, .int dd)] := hl
  refine lv_aload_n hx hb dX12_bylaw_0 rfl (lv_at hl 0 rfl) ?_
  refine lv_iconst (v := 0) hx hb dX12_bylaw_1 (by decide) ?_
  refine pM_0 hx hb htg hown hK hP hS hd dX12_bylaw_2 (fun H locs fv_1 efv_1 hP hS => ?_)
  have hF_fv_1 : rF fv_1 := rF_put hF_fv efv_1 (iv_any _)
  refine lv_aload_n hx hb dX12_bylaw_5 rfl (lv_at hl 0 rfl) ?_
  refine lv_aload_n hx hb dX12_bylaw_6 rfl (lv_at hl 0 rfl) ?_
  refine va_calli (va_runV (As := []) (rest := [.ref h]) ⟨hx, hb, hml, hown, hts⟩ (m_take l dC dI H.size h ad cA hd fv_1 wd ar hF_fv_1 hA_ar) (cwV 0 hts (gV kw_8_5 kw_8_7 kw_p_60 kw_1_15 kw_8_8) rfl rfl rfl (by decide +kernel) ⟨Nat.le_of_ble_eq_true rfl, Nat.le_of_ble_eq_true rfl⟩) ⟨fun a U g mk q => ⟨q.1, q.2.1, q.2.2.1, va_K.moved (u := U) (U := U.calling g mk a) (Vm.Alike.refl U.vm) q.2.2.2⟩, va_recv hK hP (ci := 12) (q0 := 0) rfl rfl, fun U hU hW => ⟨rfl, by rw [hU], by rw [hU]; exact hP, va_K.moved hW.alike hK⟩⟩ rfl rfl hl.1 rfl (lv_room (Nat.le_of_ble_eq_true rfl)) dX12_bylaw_7 ⟨Nat.le_of_ble_eq_true rfl, Nat.le_of_ble_eq_true rfl⟩) hS (fun q _ h9 => aM_up hS q h9) (aM_up hS) (fun r_2 u t H1 locs ht _ hw hB _ hk1 hS => ?_)
  obtain ⟨fv_4, wd_5, ar_6⟩ := u
  obtain ⟨hF_fv_4, hA_ar_6, fr_7, fa_8, p_3, -⟩ := hw
  have hP : va_P (dC, dI) vwCl (wsM h ad cA fv_4 wd_5 ar_6) H1 := by have h9 := hB.1; rw [ht] at h9; exact h9
  have fr_7 : fM [2] fv_1 fv_4 := fr_7
  have fa_8 : fA [] ar ar_6 := fa_8
  generalize H1 = H at hP hS ⊢
  refine pM_37 hx hb htg hown hK hP hS hd dX12_bylaw_10 (fun H locs fv_9 efv_9 hP hS => ?_)
  have hF_fv_9 : rF fv_9 := rF_put hF_fv_4 efv_9 p_3
  refine lv_aload_n hx hb dX12_bylaw_13 rfl (lv_at hl 0 rfl) ?_
  refine gM_58 hx hb htg hown hK hP dX12_bylaw_14 ?_
  refine my_ti (y := fv 58) ((congrFun efv_9 58).trans ((fr_7 58 rfl).trans ((congrFun efv_1 58)))) ?_
  have i_10 : 0 ≤ (fv 58).toInt ∧ (fv 58).toInt ≤ 10 := hF_fv 58
  refine lv_bipush (v := 10) hx hb dX12_bylaw_17 (by decide) ?_
  refine lv_icmp_eq (tgt := 36) hx hb dX12_bylaw_19 (by decide) (fun c_11 => ?_) (fun c_11 => ?_)
  · skip
    have i_12 : 10 ≤ (fv 58).toInt ∧ (fv 58).toInt ≤ 10 := iv_eq1 (⟨by decide, by decide⟩ : (10 : Int) ≤ (10 : Int32).toInt ∧ (10 : Int32).toInt ≤ 10) c_11
    refine lv_sipush (v := (-1000)) hx hb dX12_bylaw_36 (by decide) ?_
    exact W.iret (v := (-1000)) hx hb hr (fun t ht hW => ⟨⟨(-1000), (fv_9, wd_5, ar_6), rfl, ⟨hF_fv_9, hA_ar_6, (fM_put (fM_call (fM_put (fM_rf [0, 2, 37, 38, 39, 40, 41, 42, 43, 44, 45, 58, 59, 60, 61, 62, 63] _) efv_1 (by decide)) fr_7 (by decide)) efv_9 (by decide)), (fA_call (fA_rf [47, 48, 49, 50, 51, 52, 53, 54, 55, 56, 57] _) fa_8 (by decide)), (vM_fr hp_vM (fM_put (fM_call (fM_put (fM_rf [0, 2, 37] _) efv_1 (by decide)) fr_7 (by decide)) efv_9 (by decide)) (fA_call (fA_rf [] _) fa_8 (by decide)) rfl rfl rfl rfl rfl), trivial⟩, ⟨by rw [ht]; exact hP, va_K.moved hW.alike hK⟩⟩, hS.F ht⟩) hS.2.2 dX12_bylaw_39
  · skip
    have i_14 : 0 ≤ (fv 58).toInt ∧ (fv 58).toInt ≤ 9 := iv_neh i_10 (by decide) c_11
    have k_15 : ¬ (fv 58).toInt = 10 := fun q => c_11 (Int32.toInt_inj.mp q)
    refine lv_iload_n hx hb dX12_bylaw_22 rfl (lv_at hl 1 rfl) ?_
    refine lv_aload_n hx hb dX12_bylaw_23 rfl (lv_at hl 0 rfl) ?_
    refine gM_3 hx hb htg hown hK hP dX12_bylaw_24 ?_
    refine my_ti (y := fv 3) ((congrFun efv_9 3).trans ((fr_7 3 rfl).trans ((congrFun efv_1 3)))) ?_
    have i_16 : 0 ≤ (fv 3).toInt ∧ (fv 3).toInt ≤ 199 := hF_fv 3
    refine lv_sipush (v := 199) hx hb dX12_bylaw_27 (by decide) ?_
    refine va_calli (va_runS (As := [.int dd, .int (fv 3), .int 199]) (rest := []) ⟨hx, hb, hml, hown, hts⟩ (m_isIn l H.size dd (fv 3) 199) (va_cwS 3 hts (gS kw_7_218 kw_7_219 kw_1_15 kw_7_220) rfl rfl rfl (by decide +kernel) ⟨Nat.le_of_ble_eq_true rfl, Nat.le_of_ble_eq_true rfl⟩) ⟨fun a U g mk q => ⟨q.1, q.2⟩, fun U hU hW => ⟨rfl, congrArg Array.size hU⟩⟩ rfl rfl hl.1 rfl (lv_room (Nat.le_of_ble_eq_true rfl)) dX12_bylaw_30 ⟨Nat.le_of_ble_eq_true rfl, Nat.le_of_ble_eq_true rfl⟩) hS (fun q _ h9 => nM_up hS q h9) (nM_up hS) (fun r_17 u t H1 locs ht _ hw hB _ hk1 hS => ?_)
    obtain ⟨p_18, p_19, -⟩ := hw
    have hP := my_keepM hP hk1
    generalize H1 = H at hP hS ⊢
    rcases p_19 with ⟨rfl, p_19⟩ | ⟨rfl, p_19⟩
    · skip
      refine lv_if_ne (tgt := 40) hx hb dX12_bylaw_33 (by decide) (fun c_20 => ?_) (fun c_20 => ?_)
      · skip
        exact absurd c_20 (by decide)
      · skip
        refine lv_sipush (v := (-1000)) hx hb dX12_bylaw_36 (by decide) ?_
        exact W.iret (v := (-1000)) hx hb hr (fun t ht hW => ⟨⟨(-1000), (fv_9, wd_5, ar_6), rfl, ⟨hF_fv_9, hA_ar_6, (fM_put (fM_call (fM_put (fM_rf [0, 2, 37, 38, 39, 40, 41, 42, 43, 44, 45, 58, 59, 60, 61, 62, 63] _) efv_1 (by decide)) fr_7 (by decide)) efv_9 (by decide)), (fA_call (fA_rf [47, 48, 49, 50, 51, 52, 53, 54, 55, 56, 57] _) fa_8 (by decide)), (vM_fr hp_vM (fM_put (fM_call (fM_put (fM_rf [0, 2, 37] _) efv_1 (by decide)) fr_7 (by decide)) efv_9 (by decide)) (fA_call (fA_rf [] _) fa_8 (by decide)) rfl rfl rfl rfl rfl), trivial⟩, ⟨by rw [ht]; exact hP, va_K.moved hW.alike hK⟩⟩, hS.F ht⟩) hS.2.2 dX12_bylaw_39
    · skip
      have i_21 : 0 ≤ dd.toInt ∧ dd.toInt ≤ 2147483647 := iv_le2 i_16 (iv_any dd) (Int32.le_iff_toInt_le.mpr p_19.1)
      have i_22 : 0 ≤ dd.toInt ∧ dd.toInt ≤ 199 := iv_le1 i_21 (⟨by decide, by decide⟩ : (199 : Int) ≤ (199 : Int32).toInt ∧ (199 : Int32).toInt ≤ 199) (Int32.le_iff_toInt_le.mpr p_19.2)
      refine lv_if_ne (tgt := 40) hx hb dX12_bylaw_33 (by decide) (fun c_23 => ?_) (fun c_23 => ?_)
      · skip
        refine lv_aload_n hx hb dX12_bylaw_40 rfl (lv_at hl 0 rfl) ?_
        refine lv_iconst (v := 0) hx hb dX12_bylaw_41 (by decide) ?_
        refine pM_43 hx hb htg hown hK hP hS hd dX12_bylaw_42 (fun H locs fv_24 efv_24 hP hS => ?_)
        have hF_fv_24 : rF fv_24 := rF_put hF_fv_9 efv_24 (iv_any _)
        refine lv_aload_n hx hb dX12_bylaw_45 rfl (lv_at hl 0 rfl) ?_
        refine lv_iconst (v := 0) hx hb dX12_bylaw_46 (by decide) ?_
        refine pM_45 hx hb htg hown hK hP hS hd dX12_bylaw_47 (fun H locs fv_25 efv_25 hP hS => ?_)
        have hF_fv_25 : rF fv_25 := rF_put hF_fv_24 efv_25 (iv_any _)
        refine lv_aload_n hx hb dX12_bylaw_50 rfl (lv_at hl 0 rfl) ?_
        refine lv_iconst (v := 0) hx hb dX12_bylaw_51 (by decide) ?_
        refine pM_59 hx hb htg hown hK hP hS hd dX12_bylaw_52 (fun H locs fv_26 efv_26 hP hS => ?_)
        have hF_fv_26 : rF fv_26 := rF_put hF_fv_25 efv_26 (iv_w (⟨by decide, by decide⟩ : (0 : Int) ≤ (0 : Int32).toInt ∧ (0 : Int32).toInt ≤ 0) (by decide) (by decide))
        refine lv_aload_n hx hb dX12_bylaw_55 rfl (lv_at hl 0 rfl) ?_
        refine lv_iconst (v := 0) hx hb dX12_bylaw_56 (by decide) ?_
        refine pM_60 hx hb htg hown hK hP hS hd dX12_bylaw_57 (fun H locs fv_27 efv_27 hP hS => ?_)
        have hF_fv_27 : rF fv_27 := rF_put hF_fv_26 efv_27 (iv_w (⟨by decide, by decide⟩ : (0 : Int) ≤ (0 : Int32).toInt ∧ (0 : Int32).toInt ≤ 0) (by decide) (by decide))
        refine lv_aload_n hx hb dX12_bylaw_60 rfl (lv_at hl 0 rfl) ?_
        refine lv_iconst (v := 0) hx hb dX12_bylaw_61 (by decide) ?_
        refine pM_62 hx hb htg hown hK hP hS hd dX12_bylaw_62 (fun H locs fv_28 efv_28 hP hS => ?_)
        have hF_fv_28 : rF fv_28 := rF_put hF_fv_27 efv_28 (iv_w (⟨by decide, by decide⟩ : (0 : Int) ≤ (0 : Int32).toInt ∧ (0 : Int32).toInt ≤ 0) (by decide) (by decide))
        refine lv_aload_n hx hb dX12_bylaw_65 rfl (lv_at hl 0 rfl) ?_
        refine lv_iconst (v := 0) hx hb dX12_bylaw_66 (by decide) ?_
        refine pM_63 hx hb htg hown hK hP hS hd dX12_bylaw_67 (fun H locs fv_29 efv_29 hP hS => ?_)
        have hF_fv_29 : rF fv_29 := rF_put hF_fv_28 efv_29 (iv_w (⟨by decide, by decide⟩ : (0 : Int) ≤ (0 : Int32).toInt ∧ (0 : Int32).toInt ≤ 0) (by decide) (by decide))
        refine lv_aload_n hx hb dX12_bylaw_70 rfl (lv_at hl 0 rfl) ?_
        refine gM_48 hx hb htg hown hK hP dX12_bylaw_71 ?_
        refine lv_bipush (v := 10) hx hb dX12_bylaw_74 (by decide) ?_
        refine lv_iconst (v := 0) hx hb dX12_bylaw_76 (by decide) ?_
        refine sM_48 hx hb hK hP hS hd (iv_in (⟨by decide, by decide⟩ : (10 : Int) ≤ (10 : Int32).toInt ∧ (10 : Int32).toInt ≤ 10) (by decide) (by decide)) dX12_bylaw_77 (fun H locs ar_30 ear_30 hP hS => ?_)
        have hA_ar_30 : rA ar_30 := rA_put hA_ar_6 ear_30 (iv_any _)
        refine lv_aload_n hx hb dX12_bylaw_78 rfl (lv_at hl 0 rfl) ?_
        refine lv_iconst (v := 0) hx hb dX12_bylaw_79 (by decide) ?_
        refine pM_38 hx hb htg hown hK hP hS hd dX12_bylaw_80 (fun H locs fv_31 efv_31 hP hS => ?_)
        have hF_fv_31 : rF fv_31 := rF_put hF_fv_29 efv_31 (iv_w (⟨by decide, by decide⟩ : (0 : Int) ≤ (0 : Int32).toInt ∧ (0 : Int32).toInt ≤ 0) (by decide) (by decide))
        refine lv_aload_n hx hb dX12_bylaw_83 rfl (lv_at hl 0 rfl) ?_
        refine va_callv (va_runV (As := []) (rest := []) ⟨hx, hb, hml, hown, hts⟩ (m_go l dC dI H.size h ad cA hd fv_31 wd_5 ar_30 hF_fv_31 hA_ar_30) (cwV 0 hts (gV kw_8_60 kw_8_62 kw_p_64 kw_1_15 kw_8_63) rfl rfl rfl (by decide +kernel) ⟨Nat.le_of_ble_eq_true rfl, Nat.le_of_ble_eq_true rfl⟩) ⟨fun a U g mk q => ⟨q.1, q.2.1, q.2.2.1, va_K.moved (u := U) (U := U.calling g mk a) (Vm.Alike.refl U.vm) q.2.2.2⟩, va_recv hK hP (ci := 12) (q0 := 0) rfl rfl, fun U hU hW => ⟨rfl, by rw [hU], by rw [hU]; exact hP, va_K.moved hW.alike hK⟩⟩ rfl rfl hl.1 rfl (lv_room (Nat.le_of_ble_eq_true rfl)) dX12_bylaw_84 ⟨Nat.le_of_ble_eq_true rfl, Nat.le_of_ble_eq_true rfl⟩) hS (fun q _ h9 => aM_up hS q h9) (aM_up hS) (fun u t H1 locs ht _ hw hB _ hk1 hS => ?_)
        obtain ⟨fv_33, wd_34, ar_35⟩ := u
        obtain ⟨hF_fv_33, hA_ar_35, fr_36, fa_37, -⟩ := hw
        have hP : va_P (dC, dI) vwCl (wsM h ad cA fv_33 wd_34 ar_35) H1 := by have h9 := hB.1; rw [ht] at h9; exact h9
        have fr_36 : fM [38, 39, 40, 41, 42] fv_31 fv_33 := fr_36
        have fa_37 : fA [] ar_30 ar_35 := fa_37
        generalize H1 = H at hP hS ⊢
        have z_38 : (fv_33 59).toInt = (0 : Int32).toInt := congrArg Int32.toInt ((fr_36 59 rfl).trans ((congrFun efv_31 59).trans ((congrFun efv_29 59).trans ((congrFun efv_28 59).trans ((congrFun efv_27 59).trans ((congrFun efv_26 59)))))))
        have z_39 : (0 : Int32).toInt = 0 := by decide
        have z_40 : 0 ≤ (fv_33 59).toInt ∧ (fv_33 59).toInt ≤ 16 := hF_fv_33 59
        have z_41 : (fv_33 60).toInt = (0 : Int32).toInt := congrArg Int32.toInt ((fr_36 60 rfl).trans ((congrFun efv_31 60).trans ((congrFun efv_29 60).trans ((congrFun efv_28 60).trans ((congrFun efv_27 60))))))
        have z_42 : (0 : Int32).toInt = 0 := by decide
        have z_43 : 0 ≤ (fv_33 60).toInt ∧ (fv_33 60).toInt ≤ 120 := hF_fv_33 60
        have z_44 : (fv_33 62).toInt = (0 : Int32).toInt := congrArg Int32.toInt ((fr_36 62 rfl).trans ((congrFun efv_31 62).trans ((congrFun efv_29 62).trans ((congrFun efv_28 62)))))
        have z_45 : (0 : Int32).toInt = 0 := by decide
        have z_46 : 0 ≤ (fv_33 62).toInt ∧ (fv_33 62).toInt ≤ 50 := hF_fv_33 62
        have z_47 : (fv_33 63).toInt = (0 : Int32).toInt := congrArg Int32.toInt ((fr_36 63 rfl).trans ((congrFun efv_31 63).trans ((congrFun efv_29 63))))
        have z_48 : (0 : Int32).toInt = 0 := by decide
        have z_49 : (-100) ≤ (fv_33 63).toInt ∧ (fv_33 63).toInt ≤ 10 := hF_fv_33 63
        have hp_50 : rL fv_33 ar_35 := (fun k hk => absurd hk (by omega))
        refine my_cut (P := fun R9 a9 Q9 => ∀ (n_61 : Nat) (fv_51 : Nat → Int32) (ar_53 : Nat → Nat → Int32) (wd_55 : Int64) (H : Heap) (locs : List Loc) (ls : Array Slot), 16 - (fv_51 59).toInt < (n_61 : Int) → rF fv_51 → fM [38, 39, 40, 41, 42, 43, 44, 45, 59, 60, 61, 62, 63] fv_33 fv_51 → rA ar_53 → fA [48, 50, 51, 52, 53, 54, 55, 56, 57] ar_35 ar_53 → rL fv_51 ar_53 → vM fv_51 ar_53 → ((fv_51 60).toInt ≤ 2 * (fv_51 62).toInt) → (0 ≤ (fv_51 63).toInt + (fv_51 62).toInt) → (0 ≤ (fv_51 59).toInt ∧ (fv_51 59).toInt ≤ 16) → va_P (dC, dI) vwCl (wsM h ad cA fv_51 wd_55 ar_53) H → va_S (aM h ad s.heap.size) s.heap H locs → lv_has ls 3 [(0, .ref h), (1, .int dd)] → W p l e R9 s m a9 below meth c H locs 0 0 Q9 (F0 m 87 ls [])) ?_ (fun hj_63 => ?_)
        · intro n_61
          induction n_61 with
          | zero => intro fv_51 ar_53 wd_55 H locs ls fu_62 hF_fv_51 fr_52 hA_ar_53 fa_54 hp_56 hp_57 q_58 q_59 q_60; exfalso; omega
          | succ n_61 ih_61 =>
            intro fv_51 ar_53 wd_55 H locs ls fu_62 hF_fv_51 fr_52 hA_ar_53 fa_54 hp_56 hp_57 q_58 q_59 q_60 hP hS hl
            refine lv_aload_n hx hb dX12_bylaw_87 rfl (lv_at hl 0 rfl) ?_
            refine gM_40 hx hb htg hown hK hP dX12_bylaw_88 ?_
            refine lv_if_eq (tgt := 115) hx hb dX12_bylaw_91 (by decide) (fun c_64 => ?_) (fun c_64 => ?_)
            · skip
              have i_65 : 0 ≤ (fv_51 40).toInt ∧ (fv_51 40).toInt ≤ 0 := iv_eq1 (⟨by decide, by decide⟩ : (0 : Int) ≤ (0 : Int32).toInt ∧ (0 : Int32).toInt ≤ 0) c_64
              refine lv_aload_n hx hb dX12_bylaw_115 rfl (lv_at hl 0 rfl) ?_
              refine gM_47 hx hb htg hown hK hP dX12_bylaw_116 ?_
              refine lv_aload_n hx hb dX12_bylaw_119 rfl (lv_at hl 0 rfl) ?_
              refine gM_58 hx hb htg hown hK hP dX12_bylaw_120 ?_
              refine my_ti (y := fv 58) ((fr_52 58 rfl).trans ((fr_36 58 rfl).trans ((congrFun efv_31 58).trans ((congrFun efv_29 58).trans ((congrFun efv_28 58).trans ((congrFun efv_27 58).trans ((congrFun efv_26 58).trans ((congrFun efv_25 58).trans ((congrFun efv_24 58).trans ((congrFun efv_9 58).trans ((fr_7 58 rfl).trans ((congrFun efv_1 58))))))))))))) ?_
              refine lv_aload_n hx hb dX12_bylaw_123 rfl (lv_at hl 0 rfl) ?_
              refine gM_59 hx hb htg hown hK hP dX12_bylaw_124 ?_
              have i_67 : 0 ≤ (fv_51 59).toInt ∧ (fv_51 59).toInt ≤ 16 := hF_fv_51 59
              refine sM_47 hx hb hK hP hS hd (iv_in i_14 (by decide) (by decide)) dX12_bylaw_127 (fun H locs ar_68 ear_68 hP hS => ?_)
              have hA_ar_68 : rA ar_68 := rA_put hA_ar_53 ear_68 i_67
              have hp_69 : vM fv_51 ar_68 := vM_47 hp_57 hA_ar_53 ear_68 (by have h58 : (0 : Int) ≤ (fv_51 58).toInt ∧ (fv_51 58).toInt ≤ 10 := hF_fv_51 58; have h57 : (fv_51 58).toInt = (fv 58).toInt := congrArg Int32.toInt ((fr_52 58 rfl).trans ((fr_36 58 rfl).trans ((congrFun efv_31 58).trans ((congrFun efv_29 58).trans ((congrFun efv_28 58).trans ((congrFun efv_27 58).trans ((congrFun efv_26 58).trans ((congrFun efv_25 58).trans ((congrFun efv_24 58).trans ((congrFun efv_9 58).trans ((fr_7 58 rfl).trans ((congrFun efv_1 58))))))))))))); show _ ≤ (((fv 58).toInt.toNat : Nat) : Int); omega)
              refine lv_aload_n hx hb dX12_bylaw_128 rfl (lv_at hl 0 rfl) ?_
              refine gM_48 hx hb htg hown hK hP dX12_bylaw_129 ?_
              refine lv_aload_n hx hb dX12_bylaw_132 rfl (lv_at hl 0 rfl) ?_
              refine gM_58 hx hb htg hown hK hP dX12_bylaw_133 ?_
              refine my_ti (y := fv 58) ((fr_52 58 rfl).trans ((fr_36 58 rfl).trans ((congrFun efv_31 58).trans ((congrFun efv_29 58).trans ((congrFun efv_28 58).trans ((congrFun efv_27 58).trans ((congrFun efv_26 58).trans ((congrFun efv_25 58).trans ((congrFun efv_24 58).trans ((congrFun efv_9 58).trans ((fr_7 58 rfl).trans ((congrFun efv_1 58))))))))))))) ?_
              refine lv_aload_n hx hb dX12_bylaw_136 rfl (lv_at hl 0 rfl) ?_
              refine gM_48 hx hb htg hown hK hP dX12_bylaw_137 ?_
              refine lv_bipush (v := 10) hx hb dX12_bylaw_140 (by decide) ?_
              refine lM_48 hx hb hK hP (iv_in (⟨by decide, by decide⟩ : (10 : Int) ≤ (10 : Int32).toInt ∧ (10 : Int32).toInt ≤ 10) (by decide) (by decide)) dX12_bylaw_142 (fun v_70 ev_70 => ?_)
              refine sM_48 hx hb hK hP hS hd (iv_in i_14 (by decide) (by decide)) dX12_bylaw_143 (fun H locs ar_71 ear_71 hP hS => ?_)
              have hA_ar_71 : rA ar_71 := rA_put hA_ar_68 ear_71 (iv_any _)
              refine lv_aload_n hx hb dX12_bylaw_144 rfl (lv_at hl 0 rfl) ?_
              refine gM_49 hx hb htg hown hK hP dX12_bylaw_145 ?_
              refine lv_aload_n hx hb dX12_bylaw_148 rfl (lv_at hl 0 rfl) ?_
              refine gM_58 hx hb htg hown hK hP dX12_bylaw_149 ?_
              refine my_ti (y := fv 58) ((fr_52 58 rfl).trans ((fr_36 58 rfl).trans ((congrFun efv_31 58).trans ((congrFun efv_29 58).trans ((congrFun efv_28 58).trans ((congrFun efv_27 58).trans ((congrFun efv_26 58).trans ((congrFun efv_25 58).trans ((congrFun efv_24 58).trans ((congrFun efv_9 58).trans ((fr_7 58 rfl).trans ((congrFun efv_1 58))))))))))))) ?_
              refine lv_iload_n hx hb dX12_bylaw_152 rfl (lv_at hl 1 rfl) ?_
              refine sM_49 hx hb hK hP hS hd (iv_in i_14 (by decide) (by decide)) dX12_bylaw_153 (fun H locs ar_72 ear_72 hP hS => ?_)
              have hA_ar_72 : rA ar_72 := rA_put hA_ar_71 ear_72 (iv_any _)
              refine lv_iconst (v := 0) hx hb dX12_bylaw_154 (by decide) ?_
              refine lv_istore_n (lv' := [(2, .int 0), (0, .ref h), (1, .int dd)]) hx hb dX12_bylaw_155 rfl hl (by decide) rfl (fun ls hl => ?_)
              refine my_cut (P := fun R9 a9 Q9 => ∀ (n_79 : Nat) (x_73 : Int32) (ar_74 : Nat → Nat → Int32) (H : Heap) (locs : List Loc) (ls : Array Slot), 16 - x_73.toInt < (n_79 : Int) → (0 ≤ x_73.toInt ∧ x_73.toInt ≤ 16) → rA ar_74 → fA [50, 51, 52, 53] ar_72 ar_74 → rL fv_51 ar_74 → vM fv_51 ar_74 → (∀ j : Nat, (j : Int) < x_73.toInt → ar_74 52 (16 * (fv 58).toInt.toNat + j) = ar_74 52 (160 + j) ∧ ar_74 53 (16 * (fv 58).toInt.toNat + j) = ar_74 53 (160 + j)) → va_P (dC, dI) vwCl (wsM h ad cA fv_51 wd_55 ar_74) H → va_S (aM h ad s.heap.size) s.heap H locs → lv_has ls 3 [(0, .ref h), (2, .int x_73)] → W p l e R9 s m a9 below meth c H locs 0 0 Q9 (F0 m 156 ls [])) ?_ (fun hj_81 => ?_)
              · intro n_79
                induction n_79 with
                | zero => intro x_73 ar_74 H locs ls fu_80 i_x_73 hA_ar_74 fa_75 hp_76 hp_77 q_78; exfalso; omega
                | succ n_79 ih_79 =>
                  intro x_73 ar_74 H locs ls fu_80 i_x_73 hA_ar_74 fa_75 hp_76 hp_77 q_78 hP hS hl
                  refine lv_iload_n hx hb dX12_bylaw_156 rfl (lv_at hl 1 rfl) ?_
                  refine lv_aload_n hx hb dX12_bylaw_157 rfl (lv_at hl 0 rfl) ?_
                  refine gM_59 hx hb htg hown hK hP dX12_bylaw_158 ?_
                  refine lv_icmp_ge (tgt := 266) hx hb dX12_bylaw_161 (by decide) (fun c_82 => ?_) (fun c_82 => ?_)
                  · skip
                    have k_83 := Int32.le_iff_toInt_le.mp c_82
                    refine lv_iconst (v := 0) hx hb dX12_bylaw_266 (by decide) ?_
                    refine lv_istore_n (lv' := [(2, .int 0), (0, .ref h)]) hx hb dX12_bylaw_267 rfl hl (by decide) rfl (fun ls hl => ?_)
                    refine my_cut (P := fun R9 a9 Q9 => ∀ (n_119 : Nat) (x_113 : Int32) (ar_114 : Nat → Nat → Int32) (H : Heap) (locs : List Loc) (ls : Array Slot), 120 - x_113.toInt < (n_119 : Int) → (0 ≤ x_113.toInt ∧ x_113.toInt ≤ 120) → rA ar_114 → fA [54, 55, 56] ar_74 ar_114 → rL fv_51 ar_114 → vM fv_51 ar_114 → (∀ j : Nat, (j : Int) < x_113.toInt → ar_114 54 (120 * (fv 58).toInt.toNat + j) = ar_114 54 (1200 + j)) → va_P (dC, dI) vwCl (wsM h ad cA fv_51 wd_55 ar_114) H → va_S (aM h ad s.heap.size) s.heap H locs → lv_has ls 3 [(0, .ref h), (2, .int x_113)] → W p l e R9 s m a9 below meth c H locs 0 0 Q9 (F0 m 268 ls [])) ?_ (fun hj_121 => ?_)
                    · intro n_119
                      induction n_119 with
                      | zero => intro x_113 ar_114 H locs ls fu_120 i_x_113 hA_ar_114 fa_115 hp_116 hp_117 q_118; exfalso; omega
                      | succ n_119 ih_119 =>
                        intro x_113 ar_114 H locs ls fu_120 i_x_113 hA_ar_114 fa_115 hp_116 hp_117 q_118 hP hS hl
                        refine lv_iload_n hx hb dX12_bylaw_268 rfl (lv_at hl 1 rfl) ?_
                        refine lv_aload_n hx hb dX12_bylaw_269 rfl (lv_at hl 0 rfl) ?_
                        refine gM_60 hx hb htg hown hK hP dX12_bylaw_270 ?_
                        have i_122 : 0 ≤ (fv_51 60).toInt ∧ (fv_51 60).toInt ≤ 120 := hF_fv_51 60
                        refine lv_icmp_ge (tgt := 354) hx hb dX12_bylaw_273 (by decide) (fun c_123 => ?_) (fun c_123 => ?_)
                        · skip
                          have k_124 := Int32.le_iff_toInt_le.mp c_123
                          refine lv_aload_n hx hb dX12_bylaw_354 rfl (lv_at hl 0 rfl) ?_
                          refine lv_dup hx hb dX12_bylaw_355 rfl ?_
                          refine gM_58 hx hb htg hown hK hP dX12_bylaw_356 ?_
                          refine my_ti (y := fv 58) ((fr_52 58 rfl).trans ((fr_36 58 rfl).trans ((congrFun efv_31 58).trans ((congrFun efv_29 58).trans ((congrFun efv_28 58).trans ((congrFun efv_27 58).trans ((congrFun efv_26 58).trans ((congrFun efv_25 58).trans ((congrFun efv_24 58).trans ((congrFun efv_9 58).trans ((fr_7 58 rfl).trans ((congrFun efv_1 58))))))))))))) ?_
                          refine lv_iconst (v := 1) hx hb dX12_bylaw_359 (by decide) ?_
                          refine lv_iadd hx hb dX12_bylaw_360 ?_
                          refine lv_topi (fun v_149 ev_149 => ?_)
                          have t_150 : v_149.toInt = (fv 58).toInt + 1 ∧ 1 ≤ v_149.toInt ∧ v_149.toInt ≤ 10 := iv_addc ev_149 i_14 (by decide) (by decide) (by decide)
                          have z_152 : (fv_51 58).toInt = (fv 58).toInt := congrArg Int32.toInt ((fr_52 58 rfl).trans ((fr_36 58 rfl).trans ((congrFun efv_31 58).trans ((congrFun efv_29 58).trans ((congrFun efv_28 58).trans ((congrFun efv_27 58).trans ((congrFun efv_26 58).trans ((congrFun efv_25 58).trans ((congrFun efv_24 58).trans ((congrFun efv_9 58).trans ((fr_7 58 rfl).trans ((congrFun efv_1 58)))))))))))))
                          have z_153 : 0 ≤ (fv_51 58).toInt ∧ (fv_51 58).toInt ≤ 10 := hF_fv_51 58
                          have z_154 : 0 ≤ (fv_51 59).toInt ∧ (fv_51 59).toInt ≤ 16 := hF_fv_51 59
                          have z_155 : 0 ≤ (fv_51 60).toInt ∧ (fv_51 60).toInt ≤ 120 := hF_fv_51 60
                          refine pM_58 hx hb htg hown hK hP hS hd dX12_bylaw_361 (fun H locs fv_156 efv_156 hP hS => ?_)
                          have hF_fv_156 : rF fv_156 := rF_put hF_fv_51 efv_156 (iv_w t_150.2 (by decide) (by decide))
                          have z_157 : (fv_156 58).toInt = v_149.toInt := congrArg Int32.toInt ((congrFun efv_156 58))
                          have z_158 : 0 ≤ (fv_156 58).toInt ∧ (fv_156 58).toInt ≤ 10 := hF_fv_156 58
                          have b58 : (fv_51 58).toInt.toNat = (fv 58).toInt.toNat := by omega
                          have n47 : (ar_114 47 (fv_51 58).toInt.toNat).toInt = (fv_51 59).toInt := by rw [((fA_call (fA_call (fA_put (fA_put (fA_rf [48, 49, 50, 51, 52, 53, 54, 55, 56] _) ear_71 (by decide)) ear_72 (by decide)) fa_75 (by decide)) fa_115 (by decide)) 47 rfl), ear_68]; show (upd _ ((fv 58).toInt.toNat) _ _).toInt = _; rw [b58, up_eq] <;> omega
                          have hp_159 : vM fv_156 ar_114 := vM_add hp_117 hp_116 hA_ar_114 (by omega) (by omega) n47 (fun j hj => by rw [b58, ((fA_call (fA_rf [54, 55, 56] _) fa_115 (by decide)) 52 rfl), ((fA_call (fA_rf [54, 55, 56] _) fa_115 (by decide)) 53 rfl)]; exact q_78 j (by omega)) (fun j hj => by rw [b58]; exact q_118 j (by omega))
                          refine lv_aload_n hx hb dX12_bylaw_364 rfl (lv_at hl 0 rfl) ?_
                          refine gM_59 hx hb htg hown hK hP dX12_bylaw_365 ?_
                          refine my_ti (y := fv_51 59) ((congrFun efv_156 59)) ?_
                          exact W.iret (v := fv_51 59) hx hb hr (fun t ht hW => ⟨⟨fv_51 59, (fv_156, wd_55, ar_114), rfl, ⟨hF_fv_156, hA_ar_114, (fM_put (fM_call (fM_call (fM_put (fM_put (fM_put (fM_put (fM_put (fM_put (fM_put (fM_put (fM_call (fM_put (fM_rf [0, 2, 37, 38, 39, 40, 41, 42, 43, 44, 45, 58, 59, 60, 61, 62, 63] _) efv_1 (by decide)) fr_7 (by decide)) efv_9 (by decide)) efv_24 (by decide)) efv_25 (by decide)) efv_26 (by decide)) efv_27 (by decide)) efv_28 (by decide)) efv_29 (by decide)) efv_31 (by decide)) fr_36 (by decide)) fr_52 (by decide)) efv_156 (by decide)), (fA_call (fA_call (fA_put (fA_put (fA_put (fA_call (fA_call (fA_put (fA_call (fA_rf [47, 48, 49, 50, 51, 52, 53, 54, 55, 56, 57] _) fa_8 (by decide)) ear_30 (by decide)) fa_37 (by decide)) fa_54 (by decide)) ear_68 (by decide)) ear_71 (by decide)) ear_72 (by decide)) fa_75 (by decide)) fa_115 (by decide)), hp_159, trivial⟩, ⟨by rw [ht]; exact hP, va_K.moved hW.alike hK⟩⟩, hS.F ht⟩) hS.2.2 dX12_bylaw_368
                        · skip
                          have i_125 : 0 ≤ x_113.toInt ∧ x_113.toInt ≤ 119 := iv_lt1 i_x_113 i_122 (Int32.not_le.mp c_123)
                          have i_126 : 1 ≤ (fv_51 60).toInt ∧ (fv_51 60).toInt ≤ 120 := iv_lt2 i_x_113 i_122 (Int32.not_le.mp c_123)
                          have k_127 := Int32.lt_iff_toInt_lt.mp (Int32.not_le.mp c_123)
                          refine lv_aload_n hx hb dX12_bylaw_276 rfl (lv_at hl 0 rfl) ?_
                          refine gM_54 hx hb htg hown hK hP dX12_bylaw_277 ?_
                          refine lv_bipush (v := 120) hx hb dX12_bylaw_280 (by decide) ?_
                          refine lv_aload_n hx hb dX12_bylaw_282 rfl (lv_at hl 0 rfl) ?_
                          refine gM_58 hx hb htg hown hK hP dX12_bylaw_283 ?_
                          refine my_ti (y := fv 58) ((fr_52 58 rfl).trans ((fr_36 58 rfl).trans ((congrFun efv_31 58).trans ((congrFun efv_29 58).trans ((congrFun efv_28 58).trans ((congrFun efv_27 58).trans ((congrFun efv_26 58).trans ((congrFun efv_25 58).trans ((congrFun efv_24 58).trans ((congrFun efv_9 58).trans ((fr_7 58 rfl).trans ((congrFun efv_1 58))))))))))))) ?_
                          refine lv_imul hx hb dX12_bylaw_286 ?_
                          refine lv_topi (fun v_128 ev_128 => ?_)
                          have t_129 : v_128.toInt = 120 * (fv 58).toInt ∧ 0 ≤ v_128.toInt ∧ v_128.toInt ≤ 1080 := iv_mulc ev_128 i_14 (by decide) (by decide) (by decide) (by decide)
                          refine lv_iload_n hx hb dX12_bylaw_287 rfl (lv_at hl 1 rfl) ?_
                          refine lv_iadd hx hb dX12_bylaw_288 ?_
                          refine lv_topi (fun v_131 ev_131 => ?_)
                          have t_132 : v_131.toInt = v_128.toInt + x_113.toInt ∧ 0 ≤ v_131.toInt ∧ v_131.toInt ≤ 1199 := iv_add ev_131 t_129.2 i_125 (by decide) (by decide)
                          refine lv_aload_n hx hb dX12_bylaw_289 rfl (lv_at hl 0 rfl) ?_
                          refine gM_54 hx hb htg hown hK hP dX12_bylaw_290 ?_
                          refine lv_sipush (v := 1200) hx hb dX12_bylaw_293 (by decide) ?_
                          refine lv_iload_n hx hb dX12_bylaw_296 rfl (lv_at hl 1 rfl) ?_
                          refine lv_iadd hx hb dX12_bylaw_297 ?_
                          refine lv_topi (fun v_134 ev_134 => ?_)
                          have t_135 : v_134.toInt = x_113.toInt + 1200 ∧ 1200 ≤ v_134.toInt ∧ v_134.toInt ≤ 1319 := iv_addc (by rw [ev_134, Int32.add_comm]) i_125 (by decide) (by decide) (by decide)
                          refine lM_54 hx hb hK hP (iv_in t_135.2 (by decide) (by decide)) dX12_bylaw_298 (fun v_137 ev_137 => ?_)
                          have i_138 : 0 ≤ v_137.toInt ∧ v_137.toInt ≤ 15 := ev_137 ▸ hA_ar_114 54 _
                          refine sM_54 hx hb hK hP hS hd (iv_in t_132.2 (by decide) (by decide)) dX12_bylaw_299 (fun H locs ar_139 ear_139 hP hS => ?_)
                          have hA_ar_139 : rA ar_139 := rA_put hA_ar_114 ear_139 i_138
                          have hp_140 : vM fv_51 ar_139 := vM_54 hp_117 hA_ar_114 ear_139 (by have h58 : (0 : Int) ≤ (fv_51 58).toInt ∧ (fv_51 58).toInt ≤ 10 := hF_fv_51 58; have h57 : (fv_51 58).toInt = (fv 58).toInt := congrArg Int32.toInt ((fr_52 58 rfl).trans ((fr_36 58 rfl).trans ((congrFun efv_31 58).trans ((congrFun efv_29 58).trans ((congrFun efv_28 58).trans ((congrFun efv_27 58).trans ((congrFun efv_26 58).trans ((congrFun efv_25 58).trans ((congrFun efv_24 58).trans ((congrFun efv_9 58).trans ((fr_7 58 rfl).trans ((congrFun efv_1 58))))))))))))); show _ ≤ ((v_131.toInt.toNat : Nat) : Int); omega)
                          have hp_141 : rL fv_51 ar_139 := rL_54 hp_116 ear_139 (by show ((v_131.toInt.toNat : Nat) : Int) < 1200; omega)
                          refine lv_aload_n hx hb dX12_bylaw_300 rfl (lv_at hl 0 rfl) ?_
                          refine gM_55 hx hb htg hown hK hP dX12_bylaw_301 ?_
                          refine lv_bipush (v := 120) hx hb dX12_bylaw_304 (by decide) ?_
                          refine lv_aload_n hx hb dX12_bylaw_306 rfl (lv_at hl 0 rfl) ?_
                          refine gM_58 hx hb htg hown hK hP dX12_bylaw_307 ?_
                          refine my_ti (y := fv 58) ((fr_52 58 rfl).trans ((fr_36 58 rfl).trans ((congrFun efv_31 58).trans ((congrFun efv_29 58).trans ((congrFun efv_28 58).trans ((congrFun efv_27 58).trans ((congrFun efv_26 58).trans ((congrFun efv_25 58).trans ((congrFun efv_24 58).trans ((congrFun efv_9 58).trans ((fr_7 58 rfl).trans ((congrFun efv_1 58))))))))))))) ?_
                          refine lv_imul hx hb dX12_bylaw_310 ?_
                          refine my_ti (y := v_128) ev_128.symm ?_
                          refine lv_iload_n hx hb dX12_bylaw_311 rfl (lv_at hl 1 rfl) ?_
                          refine lv_iadd hx hb dX12_bylaw_312 ?_
                          refine my_ti (y := v_131) ev_131.symm ?_
                          refine lv_aload_n hx hb dX12_bylaw_313 rfl (lv_at hl 0 rfl) ?_
                          refine gM_55 hx hb htg hown hK hP dX12_bylaw_314 ?_
                          refine lv_sipush (v := 1200) hx hb dX12_bylaw_317 (by decide) ?_
                          refine lv_iload_n hx hb dX12_bylaw_320 rfl (lv_at hl 1 rfl) ?_
                          refine lv_iadd hx hb dX12_bylaw_321 ?_
                          refine my_ti (y := v_134) ev_134.symm ?_
                          refine lM_55 hx hb hK hP (iv_in t_135.2 (by decide) (by decide)) dX12_bylaw_322 (fun v_142 ev_142 => ?_)
                          refine sM_55 hx hb hK hP hS hd (iv_in t_132.2 (by decide) (by decide)) dX12_bylaw_323 (fun H locs ar_143 ear_143 hP hS => ?_)
                          have hA_ar_143 : rA ar_143 := rA_put hA_ar_139 ear_143 (iv_any _)
                          refine lv_aload_n hx hb dX12_bylaw_324 rfl (lv_at hl 0 rfl) ?_
                          refine gM_56 hx hb htg hown hK hP dX12_bylaw_325 ?_
                          refine lv_bipush (v := 120) hx hb dX12_bylaw_328 (by decide) ?_
                          refine lv_aload_n hx hb dX12_bylaw_330 rfl (lv_at hl 0 rfl) ?_
                          refine gM_58 hx hb htg hown hK hP dX12_bylaw_331 ?_
                          refine my_ti (y := fv 58) ((fr_52 58 rfl).trans ((fr_36 58 rfl).trans ((congrFun efv_31 58).trans ((congrFun efv_29 58).trans ((congrFun efv_28 58).trans ((congrFun efv_27 58).trans ((congrFun efv_26 58).trans ((congrFun efv_25 58).trans ((congrFun efv_24 58).trans ((congrFun efv_9 58).trans ((fr_7 58 rfl).trans ((congrFun efv_1 58))))))))))))) ?_
                          refine lv_imul hx hb dX12_bylaw_334 ?_
                          refine my_ti (y := v_128) ev_128.symm ?_
                          refine lv_iload_n hx hb dX12_bylaw_335 rfl (lv_at hl 1 rfl) ?_
                          refine lv_iadd hx hb dX12_bylaw_336 ?_
                          refine my_ti (y := v_131) ev_131.symm ?_
                          refine lv_aload_n hx hb dX12_bylaw_337 rfl (lv_at hl 0 rfl) ?_
                          refine gM_56 hx hb htg hown hK hP dX12_bylaw_338 ?_
                          refine lv_sipush (v := 1200) hx hb dX12_bylaw_341 (by decide) ?_
                          refine lv_iload_n hx hb dX12_bylaw_344 rfl (lv_at hl 1 rfl) ?_
                          refine lv_iadd hx hb dX12_bylaw_345 ?_
                          refine my_ti (y := v_134) ev_134.symm ?_
                          refine lM_56 hx hb hK hP (iv_in t_135.2 (by decide) (by decide)) dX12_bylaw_346 (fun v_144 ev_144 => ?_)
                          refine sM_56 hx hb hK hP hS hd (iv_in t_132.2 (by decide) (by decide)) dX12_bylaw_347 (fun H locs ar_145 ear_145 hP hS => ?_)
                          have hA_ar_145 : rA ar_145 := rA_put hA_ar_143 ear_145 (iv_any _)
                          have g54 : ar_145 54 = upd (ar_114 54) (120 * (fv 58).toInt.toNat + x_113.toInt.toNat) v_137 := by rw [((fA_put (fA_put (fA_rf [55, 56] _) ear_143 (by decide)) ear_145 (by decide)) 54 rfl), ear_139]; show upd (ar_114 54) (v_131.toInt.toNat) _ = _; rw [show v_131.toInt.toNat = 120 * (fv 58).toInt.toNat + x_113.toInt.toNat from by omega]
                          have x54 : v_137 = ar_114 54 (1200 + x_113.toInt.toNat) := by rw [ev_137]; congr 1; show v_134.toInt.toNat = _; omega
                          obtain ⟨v_146, ev_146⟩ : ∃ z : Int32, z = x_113 + 1 := ⟨_, rfl⟩
                          refine lv_iinc (v := v_146) (lv' := [(2, .int v_146), (0, .ref h)]) hx hb dX12_bylaw_348 hl (k := 1) rfl (by rw [ev_146]; rfl) (by decide) rfl (fun ls hl => ?_)
                          have t_147 : v_146.toInt = x_113.toInt + 1 ∧ 1 ≤ v_146.toInt ∧ v_146.toInt ≤ 120 := iv_addc ev_146 i_125 (by decide) (by decide) (by decide)
                          refine lv_goto (tgt := 268) hx hb dX12_bylaw_351 (by decide) ?_
                          exact ih_119 v_146 ar_145 _ _ ls (by omega) (iv_w t_147.2 (by decide) (by decide)) hA_ar_145 (fA_put (fA_put (fA_put (fA_call (fA_rf [54, 55, 56] _) fa_115 (by decide)) ear_139 (by decide)) ear_143 (by decide)) ear_145 (by decide)) (rL_fr hp_141 (fM_rf [] _) (fA_put (fA_put (fA_rf [55, 56] _) ear_143 (by decide)) ear_145 (by decide)) rfl rfl rfl rfl rfl) (vM_fr hp_140 (fM_rf [] _) (fA_put (fA_put (fA_rf [55, 56] _) ear_143 (by decide)) ear_145 (by decide)) rfl rfl rfl rfl rfl) (fun j hj => cp_st (fun j hj => q_118 j (by omega)) g54 x54 (by omega) j (by omega)) hP hS (lv_sub hl [1, 0] rfl)
                    · skip
                      have z_160 : (0 : Int32).toInt = 0 := by decide
                      exact hj_121 121 0 ar_74 _ _ ls (by first | decide | omega) (iv_w (⟨by decide, by decide⟩ : (0 : Int) ≤ (0 : Int32).toInt ∧ (0 : Int32).toInt ≤ 0) (by decide) (by decide)) hA_ar_74 (fA_rf [54, 55, 56] _) hp_76 hp_77 (fun j hj => absurd hj (by omega)) hP hS (lv_sub hl [1, 0] rfl)
                  · skip
                    have i_84 : 0 ≤ x_73.toInt ∧ x_73.toInt ≤ 15 := iv_lt1 i_x_73 i_67 (Int32.not_le.mp c_82)
                    have i_85 : 1 ≤ (fv_51 59).toInt ∧ (fv_51 59).toInt ≤ 16 := iv_lt2 i_x_73 i_67 (Int32.not_le.mp c_82)
                    have k_86 := Int32.lt_iff_toInt_lt.mp (Int32.not_le.mp c_82)
                    refine lv_aload_n hx hb dX12_bylaw_164 rfl (lv_at hl 0 rfl) ?_
                    refine gM_50 hx hb htg hown hK hP dX12_bylaw_165 ?_
                    refine lv_bipush (v := 16) hx hb dX12_bylaw_168 (by decide) ?_
                    refine lv_aload_n hx hb dX12_bylaw_170 rfl (lv_at hl 0 rfl) ?_
                    refine gM_58 hx hb htg hown hK hP dX12_bylaw_171 ?_
                    refine my_ti (y := fv 58) ((fr_52 58 rfl).trans ((fr_36 58 rfl).trans ((congrFun efv_31 58).trans ((congrFun efv_29 58).trans ((congrFun efv_28 58).trans ((congrFun efv_27 58).trans ((congrFun efv_26 58).trans ((congrFun efv_25 58).trans ((congrFun efv_24 58).trans ((congrFun efv_9 58).trans ((fr_7 58 rfl).trans ((congrFun efv_1 58))))))))))))) ?_
                    refine lv_imul hx hb dX12_bylaw_174 ?_
                    refine lv_topi (fun v_87 ev_87 => ?_)
                    have t_88 : v_87.toInt = 16 * (fv 58).toInt ∧ 0 ≤ v_87.toInt ∧ v_87.toInt ≤ 144 := iv_mulc ev_87 i_14 (by decide) (by decide) (by decide) (by decide)
                    refine lv_iload_n hx hb dX12_bylaw_175 rfl (lv_at hl 1 rfl) ?_
                    refine lv_iadd hx hb dX12_bylaw_176 ?_
                    refine lv_topi (fun v_90 ev_90 => ?_)
                    have t_91 : v_90.toInt = v_87.toInt + x_73.toInt ∧ 0 ≤ v_90.toInt ∧ v_90.toInt ≤ 159 := iv_add ev_90 t_88.2 i_84 (by decide) (by decide)
                    refine lv_aload_n hx hb dX12_bylaw_177 rfl (lv_at hl 0 rfl) ?_
                    refine gM_50 hx hb htg hown hK hP dX12_bylaw_178 ?_
                    refine lv_sipush (v := 160) hx hb dX12_bylaw_181 (by decide) ?_
                    refine lv_iload_n hx hb dX12_bylaw_184 rfl (lv_at hl 1 rfl) ?_
                    refine lv_iadd hx hb dX12_bylaw_185 ?_
                    refine lv_topi (fun v_93 ev_93 => ?_)
                    have t_94 : v_93.toInt = x_73.toInt + 160 ∧ 160 ≤ v_93.toInt ∧ v_93.toInt ≤ 175 := iv_addc (by rw [ev_93, Int32.add_comm]) i_84 (by decide) (by decide) (by decide)
                    refine lM_50 hx hb hK hP (iv_in t_94.2 (by decide) (by decide)) dX12_bylaw_186 (fun v_96 ev_96 => ?_)
                    refine sM_50 hx hb hK hP hS hd (iv_in t_91.2 (by decide) (by decide)) dX12_bylaw_187 (fun H locs ar_97 ear_97 hP hS => ?_)
                    have hA_ar_97 : rA ar_97 := rA_put hA_ar_74 ear_97 (iv_any _)
                    refine lv_aload_n hx hb dX12_bylaw_188 rfl (lv_at hl 0 rfl) ?_
                    refine gM_51 hx hb htg hown hK hP dX12_bylaw_189 ?_
                    refine lv_bipush (v := 16) hx hb dX12_bylaw_192 (by decide) ?_
                    refine lv_aload_n hx hb dX12_bylaw_194 rfl (lv_at hl 0 rfl) ?_
                    refine gM_58 hx hb htg hown hK hP dX12_bylaw_195 ?_
                    refine my_ti (y := fv 58) ((fr_52 58 rfl).trans ((fr_36 58 rfl).trans ((congrFun efv_31 58).trans ((congrFun efv_29 58).trans ((congrFun efv_28 58).trans ((congrFun efv_27 58).trans ((congrFun efv_26 58).trans ((congrFun efv_25 58).trans ((congrFun efv_24 58).trans ((congrFun efv_9 58).trans ((fr_7 58 rfl).trans ((congrFun efv_1 58))))))))))))) ?_
                    refine lv_imul hx hb dX12_bylaw_198 ?_
                    refine my_ti (y := v_87) ev_87.symm ?_
                    refine lv_iload_n hx hb dX12_bylaw_199 rfl (lv_at hl 1 rfl) ?_
                    refine lv_iadd hx hb dX12_bylaw_200 ?_
                    refine my_ti (y := v_90) ev_90.symm ?_
                    refine lv_aload_n hx hb dX12_bylaw_201 rfl (lv_at hl 0 rfl) ?_
                    refine gM_51 hx hb htg hown hK hP dX12_bylaw_202 ?_
                    refine lv_sipush (v := 160) hx hb dX12_bylaw_205 (by decide) ?_
                    refine lv_iload_n hx hb dX12_bylaw_208 rfl (lv_at hl 1 rfl) ?_
                    refine lv_iadd hx hb dX12_bylaw_209 ?_
                    refine my_ti (y := v_93) ev_93.symm ?_
                    refine lM_51 hx hb hK hP (iv_in t_94.2 (by decide) (by decide)) dX12_bylaw_210 (fun v_98 ev_98 => ?_)
                    refine sM_51 hx hb hK hP hS hd (iv_in t_91.2 (by decide) (by decide)) dX12_bylaw_211 (fun H locs ar_99 ear_99 hP hS => ?_)
                    have hA_ar_99 : rA ar_99 := rA_put hA_ar_97 ear_99 (iv_any _)
                    refine lv_aload_n hx hb dX12_bylaw_212 rfl (lv_at hl 0 rfl) ?_
                    refine gM_52 hx hb htg hown hK hP dX12_bylaw_213 ?_
                    refine lv_bipush (v := 16) hx hb dX12_bylaw_216 (by decide) ?_
                    refine lv_aload_n hx hb dX12_bylaw_218 rfl (lv_at hl 0 rfl) ?_
                    refine gM_58 hx hb htg hown hK hP dX12_bylaw_219 ?_
                    refine my_ti (y := fv 58) ((fr_52 58 rfl).trans ((fr_36 58 rfl).trans ((congrFun efv_31 58).trans ((congrFun efv_29 58).trans ((congrFun efv_28 58).trans ((congrFun efv_27 58).trans ((congrFun efv_26 58).trans ((congrFun efv_25 58).trans ((congrFun efv_24 58).trans ((congrFun efv_9 58).trans ((fr_7 58 rfl).trans ((congrFun efv_1 58))))))))))))) ?_
                    refine lv_imul hx hb dX12_bylaw_222 ?_
                    refine my_ti (y := v_87) ev_87.symm ?_
                    refine lv_iload_n hx hb dX12_bylaw_223 rfl (lv_at hl 1 rfl) ?_
                    refine lv_iadd hx hb dX12_bylaw_224 ?_
                    refine my_ti (y := v_90) ev_90.symm ?_
                    refine lv_aload_n hx hb dX12_bylaw_225 rfl (lv_at hl 0 rfl) ?_
                    refine gM_52 hx hb htg hown hK hP dX12_bylaw_226 ?_
                    refine lv_sipush (v := 160) hx hb dX12_bylaw_229 (by decide) ?_
                    refine lv_iload_n hx hb dX12_bylaw_232 rfl (lv_at hl 1 rfl) ?_
                    refine lv_iadd hx hb dX12_bylaw_233 ?_
                    refine my_ti (y := v_93) ev_93.symm ?_
                    refine lM_52 hx hb hK hP (iv_in t_94.2 (by decide) (by decide)) dX12_bylaw_234 (fun v_100 ev_100 => ?_)
                    have i_101 : 0 ≤ v_100.toInt ∧ v_100.toInt ≤ 120 := ev_100 ▸ hA_ar_99 52 _
                    refine sM_52 hx hb hK hP hS hd (iv_in t_91.2 (by decide) (by decide)) dX12_bylaw_235 (fun H locs ar_102 ear_102 hP hS => ?_)
                    have hA_ar_102 : rA ar_102 := rA_put hA_ar_99 ear_102 i_101
                    have hp_103 : vM fv_51 ar_102 := vM_52 (vM_fr hp_77 (fM_rf [] _) (fA_put (fA_put (fA_rf [50, 51] _) ear_97 (by decide)) ear_99 (by decide)) rfl rfl rfl rfl rfl) hA_ar_99 ear_102 (by have h58 : (0 : Int) ≤ (fv_51 58).toInt ∧ (fv_51 58).toInt ≤ 10 := hF_fv_51 58; have h57 : (fv_51 58).toInt = (fv 58).toInt := congrArg Int32.toInt ((fr_52 58 rfl).trans ((fr_36 58 rfl).trans ((congrFun efv_31 58).trans ((congrFun efv_29 58).trans ((congrFun efv_28 58).trans ((congrFun efv_27 58).trans ((congrFun efv_26 58).trans ((congrFun efv_25 58).trans ((congrFun efv_24 58).trans ((congrFun efv_9 58).trans ((fr_7 58 rfl).trans ((congrFun efv_1 58))))))))))))); show _ ≤ ((v_90.toInt.toNat : Nat) : Int); omega)
                    have hp_104 : rL fv_51 ar_102 := rL_52 (rL_fr hp_76 (fM_rf [] _) (fA_put (fA_put (fA_rf [50, 51] _) ear_97 (by decide)) ear_99 (by decide)) rfl rfl rfl rfl rfl) ear_102 (by show ((v_90.toInt.toNat : Nat) : Int) < 160 ∨ _ ≤ ((v_90.toInt.toNat : Nat) : Int); omega)
                    refine lv_aload_n hx hb dX12_bylaw_236 rfl (lv_at hl 0 rfl) ?_
                    refine gM_53 hx hb htg hown hK hP dX12_bylaw_237 ?_
                    refine lv_bipush (v := 16) hx hb dX12_bylaw_240 (by decide) ?_
                    refine lv_aload_n hx hb dX12_bylaw_242 rfl (lv_at hl 0 rfl) ?_
                    refine gM_58 hx hb htg hown hK hP dX12_bylaw_243 ?_
                    refine my_ti (y := fv 58) ((fr_52 58 rfl).trans ((fr_36 58 rfl).trans ((congrFun efv_31 58).trans ((congrFun efv_29 58).trans ((congrFun efv_28 58).trans ((congrFun efv_27 58).trans ((congrFun efv_26 58).trans ((congrFun efv_25 58).trans ((congrFun efv_24 58).trans ((congrFun efv_9 58).trans ((fr_7 58 rfl).trans ((congrFun efv_1 58))))))))))))) ?_
                    refine lv_imul hx hb dX12_bylaw_246 ?_
                    refine my_ti (y := v_87) ev_87.symm ?_
                    refine lv_iload_n hx hb dX12_bylaw_247 rfl (lv_at hl 1 rfl) ?_
                    refine lv_iadd hx hb dX12_bylaw_248 ?_
                    refine my_ti (y := v_90) ev_90.symm ?_
                    refine lv_aload_n hx hb dX12_bylaw_249 rfl (lv_at hl 0 rfl) ?_
                    refine gM_53 hx hb htg hown hK hP dX12_bylaw_250 ?_
                    refine lv_sipush (v := 160) hx hb dX12_bylaw_253 (by decide) ?_
                    refine lv_iload_n hx hb dX12_bylaw_256 rfl (lv_at hl 1 rfl) ?_
                    refine lv_iadd hx hb dX12_bylaw_257 ?_
                    refine my_ti (y := v_93) ev_93.symm ?_
                    refine lM_53 hx hb hK hP (iv_in t_94.2 (by decide) (by decide)) dX12_bylaw_258 (fun v_105 ev_105 => ?_)
                    have i_106 : 0 ≤ v_105.toInt ∧ v_105.toInt ≤ 120 := ev_105 ▸ hA_ar_102 53 _
                    refine sM_53 hx hb hK hP hS hd (iv_in t_91.2 (by decide) (by decide)) dX12_bylaw_259 (fun H locs ar_107 ear_107 hP hS => ?_)
                    have hA_ar_107 : rA ar_107 := rA_put hA_ar_102 ear_107 i_106
                    have hp_108 : vM fv_51 ar_107 := vM_53 hp_103 hA_ar_102 ear_107 (by have h58 : (0 : Int) ≤ (fv_51 58).toInt ∧ (fv_51 58).toInt ≤ 10 := hF_fv_51 58; have h57 : (fv_51 58).toInt = (fv 58).toInt := congrArg Int32.toInt ((fr_52 58 rfl).trans ((fr_36 58 rfl).trans ((congrFun efv_31 58).trans ((congrFun efv_29 58).trans ((congrFun efv_28 58).trans ((congrFun efv_27 58).trans ((congrFun efv_26 58).trans ((congrFun efv_25 58).trans ((congrFun efv_24 58).trans ((congrFun efv_9 58).trans ((fr_7 58 rfl).trans ((congrFun efv_1 58))))))))))))); show _ ≤ ((v_90.toInt.toNat : Nat) : Int); omega)
                    have hp_109 : rL fv_51 ar_107 := rL_53 hp_104 ear_107 (by show ((v_90.toInt.toNat : Nat) : Int) < 160 ∨ _ ≤ ((v_90.toInt.toNat : Nat) : Int); omega)
                    have g52 : ar_107 52 = upd (ar_74 52) (16 * (fv 58).toInt.toNat + x_73.toInt.toNat) v_100 := by rw [((fA_put (fA_rf [53] _) ear_107 (by decide)) 52 rfl), ear_102]; show upd (ar_99 52) (v_90.toInt.toNat) _ = _; rw [((fA_put (fA_put (fA_rf [50, 51] _) ear_97 (by decide)) ear_99 (by decide)) 52 rfl), show v_90.toInt.toNat = 16 * (fv 58).toInt.toNat + x_73.toInt.toNat from by omega]
                    have x52 : v_100 = ar_74 52 (160 + x_73.toInt.toNat) := by rw [ev_100, ((fA_put (fA_put (fA_rf [50, 51] _) ear_97 (by decide)) ear_99 (by decide)) 52 rfl)]; congr 1; show v_93.toInt.toNat = _; omega
                    have g53 : ar_107 53 = upd (ar_74 53) (16 * (fv 58).toInt.toNat + x_73.toInt.toNat) v_105 := by rw [show ar_107 53 = ar_107 53 from rfl, ear_107]; show upd (ar_102 53) (v_90.toInt.toNat) _ = _; rw [((fA_put (fA_put (fA_put (fA_rf [50, 51, 52] _) ear_97 (by decide)) ear_99 (by decide)) ear_102 (by decide)) 53 rfl), show v_90.toInt.toNat = 16 * (fv 58).toInt.toNat + x_73.toInt.toNat from by omega]
                    have x53 : v_105 = ar_74 53 (160 + x_73.toInt.toNat) := by rw [ev_105, ((fA_put (fA_put (fA_put (fA_rf [50, 51, 52] _) ear_97 (by decide)) ear_99 (by decide)) ear_102 (by decide)) 53 rfl)]; congr 1; show v_93.toInt.toNat = _; omega
                    obtain ⟨v_110, ev_110⟩ : ∃ z : Int32, z = x_73 + 1 := ⟨_, rfl⟩
                    refine lv_iinc (v := v_110) (lv' := [(2, .int v_110), (0, .ref h)]) hx hb dX12_bylaw_260 hl (k := 1) rfl (by rw [ev_110]; rfl) (by decide) rfl (fun ls hl => ?_)
                    have t_111 : v_110.toInt = x_73.toInt + 1 ∧ 1 ≤ v_110.toInt ∧ v_110.toInt ≤ 16 := iv_addc ev_110 i_84 (by decide) (by decide) (by decide)
                    refine lv_goto (tgt := 156) hx hb dX12_bylaw_263 (by decide) ?_
                    exact ih_79 v_110 ar_107 _ _ ls (by omega) (iv_w t_111.2 (by decide) (by decide)) hA_ar_107 (fA_put (fA_put (fA_put (fA_put (fA_call (fA_rf [50, 51, 52, 53] _) fa_75 (by decide)) ear_97 (by decide)) ear_99 (by decide)) ear_102 (by decide)) ear_107 (by decide)) hp_109 hp_108 (fun j hj => ⟨cp_st (fun j hj => (q_78 j (by omega)).1) g52 x52 (by omega) j (by omega), cp_st (fun j hj => (q_78 j (by omega)).2) g53 x53 (by omega) j (by omega)⟩) hP hS (lv_sub hl [1, 0] rfl)
              · skip
                have z_161 : (0 : Int32).toInt = 0 := by decide
                exact hj_81 17 0 ar_72 _ _ ls (by first | decide | omega) (iv_w (⟨by decide, by decide⟩ : (0 : Int) ≤ (0 : Int32).toInt ∧ (0 : Int32).toInt ≤ 0) (by decide) (by decide)) hA_ar_72 (fA_rf [50, 51, 52, 53] _) (rL_fr hp_56 (fM_rf [] _) (fA_put (fA_put (fA_put (fA_rf [47, 48, 49] _) ear_68 (by decide)) ear_71 (by decide)) ear_72 (by decide)) rfl rfl rfl rfl rfl) (vM_fr hp_69 (fM_rf [] _) (fA_put (fA_put (fA_rf [48, 49] _) ear_71 (by decide)) ear_72 (by decide)) rfl rfl rfl rfl rfl) (fun j hj => absurd hj (by omega)) hP hS (lv_sub hl [1, 0] rfl)
            · skip
              have k_162 : ¬ (fv_51 40).toInt = 0 := fun q => c_64 (Int32.toInt_inj.mp q)
              refine lv_aload_n hx hb dX12_bylaw_94 rfl (lv_at hl 0 rfl) ?_
              have z_163 : 0 ≤ (fv_51 60).toInt ∧ (fv_51 60).toInt ≤ 120 := hF_fv_51 60
              have z_164 : 0 ≤ (fv_51 62).toInt ∧ (fv_51 62).toInt ≤ 50 := hF_fv_51 62
              have z_165 : 0 ≤ (fv_51 62).toInt ∧ (fv_51 62).toInt ≤ 50 := hF_fv_51 62
              have z_166 : (-100) ≤ (fv_51 63).toInt ∧ (fv_51 63).toInt ≤ 10 := hF_fv_51 63
              refine va_calli (va_runV (As := []) (rest := []) ⟨hx, hb, hml, hown, hts⟩ (m_readLine l dC dI H.size h ad cA hd fv_51 wd_55 ar_53 hF_fv_51 hA_ar_53 (by omega) (by omega) hp_56 hp_57) (cwV 0 hts (gV kw_8_79 kw_8_81 kw_p_66 kw_1_15 kw_8_82) rfl rfl rfl (by decide +kernel) ⟨Nat.le_of_ble_eq_true rfl, Nat.le_of_ble_eq_true rfl⟩) ⟨fun a U g mk q => ⟨q.1, q.2.1, q.2.2.1, va_K.moved (u := U) (U := U.calling g mk a) (Vm.Alike.refl U.vm) q.2.2.2⟩, va_recv hK hP (ci := 12) (q0 := 0) rfl rfl, fun U hU hW => ⟨rfl, by rw [hU], by rw [hU]; exact hP, va_K.moved hW.alike hK⟩⟩ rfl rfl hl.1 rfl (lv_room (Nat.le_of_ble_eq_true rfl)) dX12_bylaw_95 ⟨Nat.le_of_ble_eq_true rfl, Nat.le_of_ble_eq_true rfl⟩) hS (fun q _ h9 => aM_up hS q h9) (aM_up hS) (fun r_167 u t H1 locs ht _ hw hB _ hk1 hS => ?_)
              obtain ⟨fv_171, wd_172, ar_173⟩ := u
              obtain ⟨hF_fv_171, hA_ar_173, fr_174, fa_175, p_168, p_169, p_170, -⟩ := hw
              have hP : va_P (dC, dI) vwCl (wsM h ad cA fv_171 wd_172 ar_173) H1 := by have h9 := hB.1; rw [ht] at h9; exact h9
              have fr_174 : fM [38, 39, 40, 41, 42, 43, 44, 45, 59, 60, 61, 62, 63] fv_51 fv_171 := fr_174
              have fa_175 : fA [48, 50, 51, 52, 53, 54, 55, 56, 57] ar_53 ar_173 := fa_175
              have p_170 : vM fv_171 ar_173 := p_170
              generalize H1 = H at hP hS ⊢
              rcases p_169 with ⟨rfl, p_169⟩ | ⟨rfl, p_169⟩
              · skip
                refine lv_if_ne (tgt := 108) hx hb dX12_bylaw_98 (by decide) (fun c_176 => ?_) (fun c_176 => ?_)
                · skip
                  exact absurd c_176 (by decide)
                · skip
                  refine lv_iconst (v := (-1)) hx hb dX12_bylaw_101 (by decide) ?_
                  refine lv_aload_n hx hb dX12_bylaw_102 rfl (lv_at hl 0 rfl) ?_
                  refine gM_44 hx hb htg hown hK hP dX12_bylaw_103 ?_
                  refine lv_isub hx hb dX12_bylaw_106 ?_
                  refine lv_topi (fun v_177 ev_177 => ?_)
                  have t_178 : v_177.toInt = ((-1) : Int32).toInt - (fv_171 44).toInt ∧ (-2147483648) ≤ v_177.toInt ∧ v_177.toInt ≤ 2147483647 := iv_sub ev_177 (⟨by decide, by decide⟩ : (-1 : Int) ≤ ((-1) : Int32).toInt ∧ ((-1) : Int32).toInt ≤ -1) (iv_any (fv_171 44)) (by decide) (by decide)
                  exact W.iret (v := v_177) hx hb hr (fun t ht hW => ⟨⟨v_177, (fv_171, wd_172, ar_173), rfl, ⟨hF_fv_171, hA_ar_173, (fM_call (fM_call (fM_call (fM_put (fM_put (fM_put (fM_put (fM_put (fM_put (fM_put (fM_put (fM_call (fM_put (fM_rf [0, 2, 37, 38, 39, 40, 41, 42, 43, 44, 45, 58, 59, 60, 61, 62, 63] _) efv_1 (by decide)) fr_7 (by decide)) efv_9 (by decide)) efv_24 (by decide)) efv_25 (by decide)) efv_26 (by decide)) efv_27 (by decide)) efv_28 (by decide)) efv_29 (by decide)) efv_31 (by decide)) fr_36 (by decide)) fr_52 (by decide)) fr_174 (by decide)), (fA_call (fA_call (fA_call (fA_put (fA_call (fA_rf [47, 48, 49, 50, 51, 52, 53, 54, 55, 56, 57] _) fa_8 (by decide)) ear_30 (by decide)) fa_37 (by decide)) fa_54 (by decide)) fa_175 (by decide)), p_170, trivial⟩, ⟨by rw [ht]; exact hP, va_K.moved hW.alike hK⟩⟩, hS.F ht⟩) hS.2.2 dX12_bylaw_107
              · skip
                have hp_180 : rL fv_171 ar_173 := p_169.1
                have q_181 : (fv_171 60).toInt ≤ 2 * (fv_171 62).toInt := p_169.2.1
                have q_182 : 0 ≤ (fv_171 63).toInt + (fv_171 62).toInt := p_169.2.2.1
                have q_183 : (fv_171 59).toInt = (fv_51 59).toInt + 1 := p_169.2.2.2
                refine lv_if_ne (tgt := 108) hx hb dX12_bylaw_98 (by decide) (fun c_184 => ?_) (fun c_184 => ?_)
                · skip
                  refine lv_aload_n hx hb dX12_bylaw_108 rfl (lv_at hl 0 rfl) ?_
                  refine va_callv (va_runV (As := []) (rest := []) ⟨hx, hb, hml, hown, hts⟩ (m_go l dC dI H.size h ad cA hd fv_171 wd_172 ar_173 hF_fv_171 hA_ar_173) (cwV 0 hts (gV kw_8_60 kw_8_62 kw_p_64 kw_1_15 kw_8_63) rfl rfl rfl (by decide +kernel) ⟨Nat.le_of_ble_eq_true rfl, Nat.le_of_ble_eq_true rfl⟩) ⟨fun a U g mk q => ⟨q.1, q.2.1, q.2.2.1, va_K.moved (u := U) (U := U.calling g mk a) (Vm.Alike.refl U.vm) q.2.2.2⟩, va_recv hK hP (ci := 12) (q0 := 0) rfl rfl, fun U hU hW => ⟨rfl, by rw [hU], by rw [hU]; exact hP, va_K.moved hW.alike hK⟩⟩ rfl rfl hl.1 rfl (lv_room (Nat.le_of_ble_eq_true rfl)) dX12_bylaw_109 ⟨Nat.le_of_ble_eq_true rfl, Nat.le_of_ble_eq_true rfl⟩) hS (fun q _ h9 => aM_up hS q h9) (aM_up hS) (fun u t H1 locs ht _ hw hB _ hk1 hS => ?_)
                  obtain ⟨fv_186, wd_187, ar_188⟩ := u
                  obtain ⟨hF_fv_186, hA_ar_188, fr_189, fa_190, -⟩ := hw
                  have hP : va_P (dC, dI) vwCl (wsM h ad cA fv_186 wd_187 ar_188) H1 := by have h9 := hB.1; rw [ht] at h9; exact h9
                  have fr_189 : fM [38, 39, 40, 41, 42] fv_171 fv_186 := fr_189
                  have fa_190 : fA [] ar_173 ar_188 := fa_190
                  generalize H1 = H at hP hS ⊢
                  refine lv_goto (tgt := 87) hx hb dX12_bylaw_112 (by decide) ?_
                  have z_191 : (fv_186 59).toInt = (fv_171 59).toInt := congrArg Int32.toInt ((fr_189 59 rfl))
                  have z_192 : 0 ≤ (fv_186 59).toInt ∧ (fv_186 59).toInt ≤ 16 := hF_fv_186 59
                  have z_193 : (fv_186 60).toInt = (fv_171 60).toInt := congrArg Int32.toInt ((fr_189 60 rfl))
                  have z_194 : 0 ≤ (fv_186 60).toInt ∧ (fv_186 60).toInt ≤ 120 := hF_fv_186 60
                  have z_195 : (fv_186 62).toInt = (fv_171 62).toInt := congrArg Int32.toInt ((fr_189 62 rfl))
                  have z_196 : 0 ≤ (fv_186 62).toInt ∧ (fv_186 62).toInt ≤ 50 := hF_fv_186 62
                  have z_197 : (fv_186 63).toInt = (fv_171 63).toInt := congrArg Int32.toInt ((fr_189 63 rfl))
                  have z_198 : (-100) ≤ (fv_186 63).toInt ∧ (fv_186 63).toInt ≤ 10 := hF_fv_186 63
                  exact ih_61 fv_186 ar_188 wd_187 _ _ ls (by omega) hF_fv_186 (fM_call (fM_call (fM_call (fM_rf [38, 39, 40, 41, 42, 43, 44, 45, 59, 60, 61, 62, 63] _) fr_52 (by decide)) fr_174 (by decide)) fr_189 (by decide)) hA_ar_188 (fA_call (fA_call (fA_call (fA_rf [48, 50, 51, 52, 53, 54, 55, 56, 57] _) fa_54 (by decide)) fa_175 (by decide)) fa_190 (by decide)) (rL_fr hp_180 (fM_call (fM_rf [38, 39, 40, 41, 42] _) fr_189 (by decide)) (fA_call (fA_rf [] _) fa_190 (by decide)) rfl rfl rfl rfl rfl) (vM_fr p_170 (fM_call (fM_rf [38, 39, 40, 41, 42] _) fr_189 (by decide)) (fA_call (fA_rf [] _) fa_190 (by decide)) rfl rfl rfl rfl rfl) (by omega) (by omega) (by omega) hP hS (lv_sub hl [0, 1] rfl)
                · skip
                  exact absurd c_184 (by decide)
        · skip
          have z_199 : (fv_33 59).toInt = (0 : Int32).toInt := congrArg Int32.toInt ((fr_36 59 rfl).trans ((congrFun efv_31 59).trans ((congrFun efv_29 59).trans ((congrFun efv_28 59).trans ((congrFun efv_27 59).trans ((congrFun efv_26 59)))))))
          have z_200 : (0 : Int32).toInt = 0 := by decide
          have z_201 : 0 ≤ (fv_33 59).toInt ∧ (fv_33 59).toInt ≤ 16 := hF_fv_33 59
          have z_202 : (fv_33 60).toInt = (0 : Int32).toInt := congrArg Int32.toInt ((fr_36 60 rfl).trans ((congrFun efv_31 60).trans ((congrFun efv_29 60).trans ((congrFun efv_28 60).trans ((congrFun efv_27 60))))))
          have z_203 : (0 : Int32).toInt = 0 := by decide
          have z_204 : 0 ≤ (fv_33 60).toInt ∧ (fv_33 60).toInt ≤ 120 := hF_fv_33 60
          have z_205 : (fv_33 62).toInt = (0 : Int32).toInt := congrArg Int32.toInt ((fr_36 62 rfl).trans ((congrFun efv_31 62).trans ((congrFun efv_29 62).trans ((congrFun efv_28 62)))))
          have z_206 : (0 : Int32).toInt = 0 := by decide
          have z_207 : 0 ≤ (fv_33 62).toInt ∧ (fv_33 62).toInt ≤ 50 := hF_fv_33 62
          have z_208 : (fv_33 63).toInt = (0 : Int32).toInt := congrArg Int32.toInt ((fr_36 63 rfl).trans ((congrFun efv_31 63).trans ((congrFun efv_29 63))))
          have z_209 : (0 : Int32).toInt = 0 := by decide
          have z_210 : (-100) ≤ (fv_33 63).toInt ∧ (fv_33 63).toInt ≤ 10 := hF_fv_33 63
          exact hj_63 17 fv_33 ar_35 wd_34 _ _ ls (by omega) hF_fv_33 (fM_rf [38, 39, 40, 41, 42, 43, 44, 45, 59, 60, 61, 62, 63] _) hA_ar_35 (fA_rf [48, 50, 51, 52, 53, 54, 55, 56, 57] _) hp_50 (vM_fr hp_vM (fM_call (fM_put (fM_put (fM_put (fM_put (fM_put (fM_put (fM_put (fM_put (fM_call (fM_put (fM_rf [0, 2, 37, 38, 39, 40, 41, 42, 43, 45, 59, 60, 62, 63] _) efv_1 (by decide)) fr_7 (by decide)) efv_9 (by decide)) efv_24 (by decide)) efv_25 (by decide)) efv_26 (by decide)) efv_27 (by decide)) efv_28 (by decide)) efv_29 (by decide)) efv_31 (by decide)) fr_36 (by decide)) (fA_call (fA_put (fA_call (fA_rf [48] _) fa_8 (by decide)) ear_30 (by decide)) fa_37 (by decide)) rfl rfl rfl rfl rfl) (by omega) (by omega) (by omega) hP hS (lv_sub hl [0, 1] rfl)
      · skip
        exact absurd c_23 (by decide)
