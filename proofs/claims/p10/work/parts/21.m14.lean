theorem dX12_seated_0 : decode cX12_seated 0 = .ok (.aload_n 0, 1) := by decide +kernel
theorem dX12_seated_1 : decode cX12_seated 1 = .ok (.iconst 0, 1) := by decide +kernel
theorem dX12_seated_2 : decode cX12_seated 2 = .ok (.putfield 204, 3) := by decide +kernel
theorem dX12_seated_5 : decode cX12_seated 5 = .ok (.aload_n 0, 1) := by decide +kernel
theorem dX12_seated_6 : decode cX12_seated 6 = .ok (.invokevirtual 240, 3) := by decide +kernel
theorem dX12_seated_9 : decode cX12_seated 9 = .ok (.istore_n 2, 1) := by decide +kernel
theorem dX12_seated_10 : decode cX12_seated 10 = .ok (.iload_n 2, 1) := by decide +kernel
theorem dX12_seated_11 : decode cX12_seated 11 = .ok (.iconst 1, 1) := by decide +kernel
theorem dX12_seated_12 : decode cX12_seated 12 = .ok (.iconst 5, 1) := by decide +kernel
theorem dX12_seated_13 : decode cX12_seated 13 = .ok (.invokestatic 214, 3) := by decide +kernel
theorem dX12_seated_16 : decode cX12_seated 16 = .ok (.ifCond .eq 21, 3) := by decide +kernel
theorem dX12_seated_19 : decode cX12_seated 19 = .ok (.iload_n 1, 1) := by decide +kernel
theorem dX12_seated_20 : decode cX12_seated 20 = .ok (.iconst 0, 1) := by decide +kernel
theorem dX12_seated_21 : decode cX12_seated 21 = .ok (.sipush 200, 3) := by decide +kernel
theorem dX12_seated_24 : decode cX12_seated 24 = .ok (.invokestatic 214, 3) := by decide +kernel
theorem dX12_seated_27 : decode cX12_seated 27 = .ok (.ifCond .eq 10, 3) := by decide +kernel
theorem dX12_seated_30 : decode cX12_seated 30 = .ok (.aload_n 0, 1) := by decide +kernel
theorem dX12_seated_31 : decode cX12_seated 31 = .ok (.getfield 260, 3) := by decide +kernel
theorem dX12_seated_34 : decode cX12_seated 34 = .ok (.ifCond .ne 5, 3) := by decide +kernel
theorem dX12_seated_37 : decode cX12_seated 37 = .ok (.iconst (-1), 1) := by decide +kernel
theorem dX12_seated_38 : decode cX12_seated 38 = .ok (.ireturn, 1) := by decide +kernel
theorem dX12_seated_39 : decode cX12_seated 39 = .ok (.iconst 0, 1) := by decide +kernel
theorem dX12_seated_40 : decode cX12_seated 40 = .ok (.istore_n 3, 1) := by decide +kernel
theorem dX12_seated_41 : decode cX12_seated 41 = .ok (.iconst 0, 1) := by decide +kernel
theorem dX12_seated_42 : decode cX12_seated 42 = .ok (.istore 4, 2) := by decide +kernel
theorem dX12_seated_44 : decode cX12_seated 44 = .ok (.iload 4, 2) := by decide +kernel
theorem dX12_seated_46 : decode cX12_seated 46 = .ok (.iload_n 2, 1) := by decide +kernel
theorem dX12_seated_47 : decode cX12_seated 47 = .ok (.if_icmp .ge 52, 3) := by decide +kernel
theorem dX12_seated_50 : decode cX12_seated 50 = .ok (.aload_n 0, 1) := by decide +kernel
theorem dX12_seated_51 : decode cX12_seated 51 = .ok (.aload_n 0, 1) := by decide +kernel
theorem dX12_seated_52 : decode cX12_seated 52 = .ok (.getfield 7, 3) := by decide +kernel
theorem dX12_seated_55 : decode cX12_seated 55 = .ok (.iload 4, 2) := by decide +kernel
theorem dX12_seated_57 : decode cX12_seated 57 = .ok (.iaload, 1) := by decide +kernel
theorem dX12_seated_58 : decode cX12_seated 58 = .ok (.invokevirtual 266, 3) := by decide +kernel
theorem dX12_seated_61 : decode cX12_seated 61 = .ok (.ifCond .eq 18, 3) := by decide +kernel
theorem dX12_seated_64 : decode cX12_seated 64 = .ok (.iload_n 3, 1) := by decide +kernel
theorem dX12_seated_65 : decode cX12_seated 65 = .ok (.aload_n 0, 1) := by decide +kernel
theorem dX12_seated_66 : decode cX12_seated 66 = .ok (.getfield 7, 3) := by decide +kernel
theorem dX12_seated_69 : decode cX12_seated 69 = .ok (.iload 4, 2) := by decide +kernel
theorem dX12_seated_71 : decode cX12_seated 71 = .ok (.iaload, 1) := by decide +kernel
theorem dX12_seated_72 : decode cX12_seated 72 = .ok (.ishr, 1) := by decide +kernel
theorem dX12_seated_73 : decode cX12_seated 73 = .ok (.iconst 1, 1) := by decide +kernel
theorem dX12_seated_74 : decode cX12_seated 74 = .ok (.iand, 1) := by decide +kernel
theorem dX12_seated_75 : decode cX12_seated 75 = .ok (.iconst 1, 1) := by decide +kernel
theorem dX12_seated_76 : decode cX12_seated 76 = .ok (.if_icmp .ne 5, 3) := by decide +kernel
theorem dX12_seated_79 : decode cX12_seated 79 = .ok (.iconst (-1), 1) := by decide +kernel
theorem dX12_seated_80 : decode cX12_seated 80 = .ok (.ireturn, 1) := by decide +kernel
theorem dX12_seated_81 : decode cX12_seated 81 = .ok (.iload_n 3, 1) := by decide +kernel
theorem dX12_seated_82 : decode cX12_seated 82 = .ok (.iconst 1, 1) := by decide +kernel
theorem dX12_seated_83 : decode cX12_seated 83 = .ok (.aload_n 0, 1) := by decide +kernel
theorem dX12_seated_84 : decode cX12_seated 84 = .ok (.getfield 7, 3) := by decide +kernel
theorem dX12_seated_87 : decode cX12_seated 87 = .ok (.iload 4, 2) := by decide +kernel
theorem dX12_seated_89 : decode cX12_seated 89 = .ok (.iaload, 1) := by decide +kernel
theorem dX12_seated_90 : decode cX12_seated 90 = .ok (.ishl, 1) := by decide +kernel
theorem dX12_seated_91 : decode cX12_seated 91 = .ok (.ior, 1) := by decide +kernel
theorem dX12_seated_92 : decode cX12_seated 92 = .ok (.istore_n 3, 1) := by decide +kernel
theorem dX12_seated_93 : decode cX12_seated 93 = .ok (.iinc 4 1, 3) := by decide +kernel
theorem dX12_seated_96 : decode cX12_seated 96 = .ok (.goto (-52), 3) := by decide +kernel
theorem dX12_seated_99 : decode cX12_seated 99 = .ok (.iconst 0, 1) := by decide +kernel
theorem dX12_seated_100 : decode cX12_seated 100 = .ok (.istore 4, 2) := by decide +kernel
theorem dX12_seated_102 : decode cX12_seated 102 = .ok (.iload 4, 2) := by decide +kernel
theorem dX12_seated_104 : decode cX12_seated 104 = .ok (.aload_n 0, 1) := by decide +kernel
theorem dX12_seated_105 : decode cX12_seated 105 = .ok (.getfield 254, 3) := by decide +kernel
theorem dX12_seated_108 : decode cX12_seated 108 = .ok (.if_icmp .ge 96, 3) := by decide +kernel
theorem dX12_seated_111 : decode cX12_seated 111 = .ok (.aload_n 0, 1) := by decide +kernel
theorem dX12_seated_112 : decode cX12_seated 112 = .ok (.getfield 189, 3) := by decide +kernel
theorem dX12_seated_115 : decode cX12_seated 115 = .ok (.iload 4, 2) := by decide +kernel
theorem dX12_seated_117 : decode cX12_seated 117 = .ok (.iconst 0, 1) := by decide +kernel
theorem dX12_seated_118 : decode cX12_seated 118 = .ok (.iastore, 1) := by decide +kernel
theorem dX12_seated_119 : decode cX12_seated 119 = .ok (.iconst 0, 1) := by decide +kernel
theorem dX12_seated_120 : decode cX12_seated 120 = .ok (.istore 5, 2) := by decide +kernel
theorem dX12_seated_122 : decode cX12_seated 122 = .ok (.iload 5, 2) := by decide +kernel
theorem dX12_seated_124 : decode cX12_seated 124 = .ok (.aload_n 0, 1) := by decide +kernel
theorem dX12_seated_125 : decode cX12_seated 125 = .ok (.getfield 260, 3) := by decide +kernel
theorem dX12_seated_128 : decode cX12_seated 128 = .ok (.if_icmp .ge 70, 3) := by decide +kernel
theorem dX12_seated_131 : decode cX12_seated 131 = .ok (.aload_n 0, 1) := by decide +kernel
theorem dX12_seated_132 : decode cX12_seated 132 = .ok (.aload_n 0, 1) := by decide +kernel
theorem dX12_seated_133 : decode cX12_seated 133 = .ok (.getfield 19, 3) := by decide +kernel
theorem dX12_seated_136 : decode cX12_seated 136 = .ok (.iload 4, 2) := by decide +kernel
theorem dX12_seated_138 : decode cX12_seated 138 = .ok (.iaload, 1) := by decide +kernel
theorem dX12_seated_139 : decode cX12_seated 139 = .ok (.aload_n 0, 1) := by decide +kernel
theorem dX12_seated_140 : decode cX12_seated 140 = .ok (.getfield 49, 3) := by decide +kernel
theorem dX12_seated_143 : decode cX12_seated 143 = .ok (.iload 5, 2) := by decide +kernel
theorem dX12_seated_145 : decode cX12_seated 145 = .ok (.iaload, 1) := by decide +kernel
theorem dX12_seated_146 : decode cX12_seated 146 = .ok (.invokevirtual 236, 3) := by decide +kernel
theorem dX12_seated_149 : decode cX12_seated 149 = .ok (.ldc 225, 2) := by decide +kernel
theorem dX12_seated_151 : decode cX12_seated 151 = .ok (.if_icmp .ge 41, 3) := by decide +kernel
theorem dX12_seated_154 : decode cX12_seated 154 = .ok (.aload_n 0, 1) := by decide +kernel
theorem dX12_seated_155 : decode cX12_seated 155 = .ok (.iload 4, 2) := by decide +kernel
theorem dX12_seated_157 : decode cX12_seated 157 = .ok (.aload_n 0, 1) := by decide +kernel
theorem dX12_seated_158 : decode cX12_seated 158 = .ok (.getfield 19, 3) := by decide +kernel
theorem dX12_seated_161 : decode cX12_seated 161 = .ok (.iload 4, 2) := by decide +kernel
theorem dX12_seated_163 : decode cX12_seated 163 = .ok (.iaload, 1) := by decide +kernel
theorem dX12_seated_164 : decode cX12_seated 164 = .ok (.aload_n 0, 1) := by decide +kernel
theorem dX12_seated_165 : decode cX12_seated 165 = .ok (.getfield 49, 3) := by decide +kernel
theorem dX12_seated_168 : decode cX12_seated 168 = .ok (.iload 5, 2) := by decide +kernel
theorem dX12_seated_170 : decode cX12_seated 170 = .ok (.iaload, 1) := by decide +kernel
theorem dX12_seated_171 : decode cX12_seated 171 = .ok (.invokevirtual 439, 3) := by decide +kernel
theorem dX12_seated_174 : decode cX12_seated 174 = .ok (.iload_n 1, 1) := by decide +kernel
theorem dX12_seated_175 : decode cX12_seated 175 = .ok (.if_icmp .gt 17, 3) := by decide +kernel
theorem dX12_seated_178 : decode cX12_seated 178 = .ok (.aload_n 0, 1) := by decide +kernel
theorem dX12_seated_179 : decode cX12_seated 179 = .ok (.getfield 189, 3) := by decide +kernel
theorem dX12_seated_182 : decode cX12_seated 182 = .ok (.iload 4, 2) := by decide +kernel
theorem dX12_seated_184 : decode cX12_seated 184 = .ok (.dup2, 1) := by decide +kernel
theorem dX12_seated_185 : decode cX12_seated 185 = .ok (.iaload, 1) := by decide +kernel
theorem dX12_seated_186 : decode cX12_seated 186 = .ok (.iconst 1, 1) := by decide +kernel
theorem dX12_seated_187 : decode cX12_seated 187 = .ok (.iload 5, 2) := by decide +kernel
theorem dX12_seated_189 : decode cX12_seated 189 = .ok (.ishl, 1) := by decide +kernel
theorem dX12_seated_190 : decode cX12_seated 190 = .ok (.ior, 1) := by decide +kernel
theorem dX12_seated_191 : decode cX12_seated 191 = .ok (.iastore, 1) := by decide +kernel
theorem dX12_seated_192 : decode cX12_seated 192 = .ok (.iinc 5 1, 3) := by decide +kernel
theorem dX12_seated_195 : decode cX12_seated 195 = .ok (.goto (-73), 3) := by decide +kernel
theorem dX12_seated_198 : decode cX12_seated 198 = .ok (.iinc 4 1, 3) := by decide +kernel
theorem dX12_seated_201 : decode cX12_seated 201 = .ok (.goto (-99), 3) := by decide +kernel
theorem dX12_seated_204 : decode cX12_seated 204 = .ok (.iconst 0, 1) := by decide +kernel
theorem dX12_seated_205 : decode cX12_seated 205 = .ok (.istore 4, 2) := by decide +kernel
theorem dX12_seated_207 : decode cX12_seated 207 = .ok (.iload 4, 2) := by decide +kernel
theorem dX12_seated_209 : decode cX12_seated 209 = .ok (.iconst 1, 1) := by decide +kernel
theorem dX12_seated_210 : decode cX12_seated 210 = .ok (.aload_n 0, 1) := by decide +kernel
theorem dX12_seated_211 : decode cX12_seated 211 = .ok (.getfield 260, 3) := by decide +kernel
theorem dX12_seated_214 : decode cX12_seated 214 = .ok (.ishl, 1) := by decide +kernel
theorem dX12_seated_215 : decode cX12_seated 215 = .ok (.if_icmp .ge 61, 3) := by decide +kernel
theorem dX12_seated_218 : decode cX12_seated 218 = .ok (.aload_n 0, 1) := by decide +kernel
theorem dX12_seated_219 : decode cX12_seated 219 = .ok (.getfield 201, 3) := by decide +kernel
theorem dX12_seated_222 : decode cX12_seated 222 = .ok (.iload 4, 2) := by decide +kernel
theorem dX12_seated_224 : decode cX12_seated 224 = .ok (.iconst 0, 1) := by decide +kernel
theorem dX12_seated_225 : decode cX12_seated 225 = .ok (.iastore, 1) := by decide +kernel
theorem dX12_seated_226 : decode cX12_seated 226 = .ok (.iconst 0, 1) := by decide +kernel
theorem dX12_seated_227 : decode cX12_seated 227 = .ok (.istore 5, 2) := by decide +kernel
theorem dX12_seated_229 : decode cX12_seated 229 = .ok (.iload 5, 2) := by decide +kernel
theorem dX12_seated_231 : decode cX12_seated 231 = .ok (.aload_n 0, 1) := by decide +kernel
theorem dX12_seated_232 : decode cX12_seated 232 = .ok (.getfield 254, 3) := by decide +kernel
theorem dX12_seated_235 : decode cX12_seated 235 = .ok (.if_icmp .ge 35, 3) := by decide +kernel
theorem dX12_seated_238 : decode cX12_seated 238 = .ok (.aload_n 0, 1) := by decide +kernel
theorem dX12_seated_239 : decode cX12_seated 239 = .ok (.getfield 189, 3) := by decide +kernel
theorem dX12_seated_242 : decode cX12_seated 242 = .ok (.iload 5, 2) := by decide +kernel
theorem dX12_seated_244 : decode cX12_seated 244 = .ok (.iaload, 1) := by decide +kernel
theorem dX12_seated_245 : decode cX12_seated 245 = .ok (.iload 4, 2) := by decide +kernel
theorem dX12_seated_247 : decode cX12_seated 247 = .ok (.iconst (-1), 1) := by decide +kernel
theorem dX12_seated_248 : decode cX12_seated 248 = .ok (.ixor, 1) := by decide +kernel
theorem dX12_seated_249 : decode cX12_seated 249 = .ok (.iand, 1) := by decide +kernel
theorem dX12_seated_250 : decode cX12_seated 250 = .ok (.ifCond .eq 14, 3) := by decide +kernel
theorem dX12_seated_253 : decode cX12_seated 253 = .ok (.aload_n 0, 1) := by decide +kernel
theorem dX12_seated_254 : decode cX12_seated 254 = .ok (.getfield 201, 3) := by decide +kernel
theorem dX12_seated_257 : decode cX12_seated 257 = .ok (.iload 4, 2) := by decide +kernel
theorem dX12_seated_259 : decode cX12_seated 259 = .ok (.dup2, 1) := by decide +kernel
theorem dX12_seated_260 : decode cX12_seated 260 = .ok (.iaload, 1) := by decide +kernel
theorem dX12_seated_261 : decode cX12_seated 261 = .ok (.iconst 1, 1) := by decide +kernel
theorem dX12_seated_262 : decode cX12_seated 262 = .ok (.iadd, 1) := by decide +kernel
theorem dX12_seated_263 : decode cX12_seated 263 = .ok (.iastore, 1) := by decide +kernel
theorem dX12_seated_264 : decode cX12_seated 264 = .ok (.iinc 5 1, 3) := by decide +kernel
theorem dX12_seated_267 : decode cX12_seated 267 = .ok (.goto (-38), 3) := by decide +kernel
theorem dX12_seated_270 : decode cX12_seated 270 = .ok (.iinc 4 1, 3) := by decide +kernel
theorem dX12_seated_273 : decode cX12_seated 273 = .ok (.goto (-66), 3) := by decide +kernel
theorem dX12_seated_276 : decode cX12_seated 276 = .ok (.iconst 0, 1) := by decide +kernel
theorem dX12_seated_277 : decode cX12_seated 277 = .ok (.istore 4, 2) := by decide +kernel
theorem dX12_seated_279 : decode cX12_seated 279 = .ok (.iload 4, 2) := by decide +kernel
theorem dX12_seated_281 : decode cX12_seated 281 = .ok (.aload_n 0, 1) := by decide +kernel
theorem dX12_seated_282 : decode cX12_seated 282 = .ok (.getfield 260, 3) := by decide +kernel
theorem dX12_seated_285 : decode cX12_seated 285 = .ok (.if_icmp .ge 17, 3) := by decide +kernel
theorem dX12_seated_288 : decode cX12_seated 288 = .ok (.aload_n 0, 1) := by decide +kernel
theorem dX12_seated_289 : decode cX12_seated 289 = .ok (.getfield 198, 3) := by decide +kernel
theorem dX12_seated_292 : decode cX12_seated 292 = .ok (.iload 4, 2) := by decide +kernel
theorem dX12_seated_294 : decode cX12_seated 294 = .ok (.iconst 0, 1) := by decide +kernel
theorem dX12_seated_295 : decode cX12_seated 295 = .ok (.iastore, 1) := by decide +kernel
theorem dX12_seated_296 : decode cX12_seated 296 = .ok (.iinc 4 1, 3) := by decide +kernel
theorem dX12_seated_299 : decode cX12_seated 299 = .ok (.goto (-20), 3) := by decide +kernel
theorem dX12_seated_302 : decode cX12_seated 302 = .ok (.iconst 0, 1) := by decide +kernel
theorem dX12_seated_303 : decode cX12_seated 303 = .ok (.istore 4, 2) := by decide +kernel
theorem dX12_seated_305 : decode cX12_seated 305 = .ok (.iload 4, 2) := by decide +kernel
theorem dX12_seated_307 : decode cX12_seated 307 = .ok (.iload_n 2, 1) := by decide +kernel
theorem dX12_seated_308 : decode cX12_seated 308 = .ok (.if_icmp .ge 38, 3) := by decide +kernel
theorem dX12_seated_311 : decode cX12_seated 311 = .ok (.aload_n 0, 1) := by decide +kernel
theorem dX12_seated_312 : decode cX12_seated 312 = .ok (.getfield 192, 3) := by decide +kernel
theorem dX12_seated_315 : decode cX12_seated 315 = .ok (.iload 4, 2) := by decide +kernel
theorem dX12_seated_317 : decode cX12_seated 317 = .ok (.iconst 0, 1) := by decide +kernel
theorem dX12_seated_318 : decode cX12_seated 318 = .ok (.iastore, 1) := by decide +kernel
theorem dX12_seated_319 : decode cX12_seated 319 = .ok (.aload_n 0, 1) := by decide +kernel
theorem dX12_seated_320 : decode cX12_seated 320 = .ok (.getfield 198, 3) := by decide +kernel
theorem dX12_seated_323 : decode cX12_seated 323 = .ok (.iconst 0, 1) := by decide +kernel
theorem dX12_seated_324 : decode cX12_seated 324 = .ok (.dup2, 1) := by decide +kernel
theorem dX12_seated_325 : decode cX12_seated 325 = .ok (.iaload, 1) := by decide +kernel
theorem dX12_seated_326 : decode cX12_seated 326 = .ok (.aload_n 0, 1) := by decide +kernel
theorem dX12_seated_327 : decode cX12_seated 327 = .ok (.getfield 58, 3) := by decide +kernel
theorem dX12_seated_330 : decode cX12_seated 330 = .ok (.aload_n 0, 1) := by decide +kernel
theorem dX12_seated_331 : decode cX12_seated 331 = .ok (.getfield 7, 3) := by decide +kernel
theorem dX12_seated_334 : decode cX12_seated 334 = .ok (.iload 4, 2) := by decide +kernel
theorem dX12_seated_336 : decode cX12_seated 336 = .ok (.iaload, 1) := by decide +kernel
theorem dX12_seated_337 : decode cX12_seated 337 = .ok (.iaload, 1) := by decide +kernel
theorem dX12_seated_338 : decode cX12_seated 338 = .ok (.iadd, 1) := by decide +kernel
theorem dX12_seated_339 : decode cX12_seated 339 = .ok (.iastore, 1) := by decide +kernel
theorem dX12_seated_340 : decode cX12_seated 340 = .ok (.iinc 4 1, 3) := by decide +kernel
theorem dX12_seated_343 : decode cX12_seated 343 = .ok (.goto (-38), 3) := by decide +kernel
theorem dX12_seated_346 : decode cX12_seated 346 = .ok (.aload_n 0, 1) := by decide +kernel
theorem dX12_seated_347 : decode cX12_seated 347 = .ok (.getfield 198, 3) := by decide +kernel
theorem dX12_seated_350 : decode cX12_seated 350 = .ok (.iconst 0, 1) := by decide +kernel
theorem dX12_seated_351 : decode cX12_seated 351 = .ok (.iaload, 1) := by decide +kernel
theorem dX12_seated_352 : decode cX12_seated 352 = .ok (.istore 4, 2) := by decide +kernel
theorem dX12_seated_354 : decode cX12_seated 354 = .ok (.iconst (-1), 1) := by decide +kernel
theorem dX12_seated_355 : decode cX12_seated 355 = .ok (.istore 5, 2) := by decide +kernel
theorem dX12_seated_357 : decode cX12_seated 357 = .ok (.iconst 1, 1) := by decide +kernel
theorem dX12_seated_358 : decode cX12_seated 358 = .ok (.istore 6, 2) := by decide +kernel
theorem dX12_seated_360 : decode cX12_seated 360 = .ok (.iload 6, 2) := by decide +kernel
theorem dX12_seated_362 : decode cX12_seated 362 = .ok (.ifCond .eq 245, 3) := by decide +kernel
theorem dX12_seated_365 : decode cX12_seated 365 = .ok (.aload_n 0, 1) := by decide +kernel
theorem dX12_seated_366 : decode cX12_seated 366 = .ok (.invokevirtual 487, 3) := by decide +kernel
theorem dX12_seated_369 : decode cX12_seated 369 = .ok (.istore 7, 2) := by decide +kernel
theorem dX12_seated_371 : decode cX12_seated 371 = .ok (.iload 7, 2) := by decide +kernel
theorem dX12_seated_373 : decode cX12_seated 373 = .ok (.iload 5, 2) := by decide +kernel
theorem dX12_seated_375 : decode cX12_seated 375 = .ok (.if_icmp .le 36, 3) := by decide +kernel
theorem dX12_seated_378 : decode cX12_seated 378 = .ok (.iload 7, 2) := by decide +kernel
theorem dX12_seated_380 : decode cX12_seated 380 = .ok (.istore 5, 2) := by decide +kernel
theorem dX12_seated_382 : decode cX12_seated 382 = .ok (.iconst 0, 1) := by decide +kernel
theorem dX12_seated_383 : decode cX12_seated 383 = .ok (.istore 8, 2) := by decide +kernel
theorem dX12_seated_385 : decode cX12_seated 385 = .ok (.iload 8, 2) := by decide +kernel
theorem dX12_seated_387 : decode cX12_seated 387 = .ok (.iload_n 2, 1) := by decide +kernel
theorem dX12_seated_388 : decode cX12_seated 388 = .ok (.if_icmp .ge 23, 3) := by decide +kernel
theorem dX12_seated_391 : decode cX12_seated 391 = .ok (.aload_n 0, 1) := by decide +kernel
theorem dX12_seated_392 : decode cX12_seated 392 = .ok (.getfield 195, 3) := by decide +kernel
theorem dX12_seated_395 : decode cX12_seated 395 = .ok (.iload 8, 2) := by decide +kernel
theorem dX12_seated_397 : decode cX12_seated 397 = .ok (.aload_n 0, 1) := by decide +kernel
theorem dX12_seated_398 : decode cX12_seated 398 = .ok (.getfield 192, 3) := by decide +kernel
theorem dX12_seated_401 : decode cX12_seated 401 = .ok (.iload 8, 2) := by decide +kernel
theorem dX12_seated_403 : decode cX12_seated 403 = .ok (.iaload, 1) := by decide +kernel
theorem dX12_seated_404 : decode cX12_seated 404 = .ok (.iastore, 1) := by decide +kernel
theorem dX12_seated_405 : decode cX12_seated 405 = .ok (.iinc 8 1, 3) := by decide +kernel
theorem dX12_seated_408 : decode cX12_seated 408 = .ok (.goto (-23), 3) := by decide +kernel
theorem dX12_seated_411 : decode cX12_seated 411 = .ok (.iload 5, 2) := by decide +kernel
theorem dX12_seated_413 : decode cX12_seated 413 = .ok (.aload_n 0, 1) := by decide +kernel
theorem dX12_seated_414 : decode cX12_seated 414 = .ok (.getfield 201, 3) := by decide +kernel
theorem dX12_seated_417 : decode cX12_seated 417 = .ok (.iconst 0, 1) := by decide +kernel
theorem dX12_seated_418 : decode cX12_seated 418 = .ok (.iaload, 1) := by decide +kernel
theorem dX12_seated_419 : decode cX12_seated 419 = .ok (.if_icmp .eq 188, 3) := by decide +kernel
theorem dX12_seated_422 : decode cX12_seated 422 = .ok (.iload 5, 2) := by decide +kernel
theorem dX12_seated_424 : decode cX12_seated 424 = .ok (.iload 4, 2) := by decide +kernel
theorem dX12_seated_426 : decode cX12_seated 426 = .ok (.if_icmp .ne 6, 3) := by decide +kernel
theorem dX12_seated_429 : decode cX12_seated 429 = .ok (.goto 178, 3) := by decide +kernel
theorem dX12_seated_432 : decode cX12_seated 432 = .ok (.iload_n 2, 1) := by decide +kernel
theorem dX12_seated_433 : decode cX12_seated 433 = .ok (.iconst 1, 1) := by decide +kernel
theorem dX12_seated_434 : decode cX12_seated 434 = .ok (.isub, 1) := by decide +kernel
theorem dX12_seated_435 : decode cX12_seated 435 = .ok (.istore 8, 2) := by decide +kernel
theorem dX12_seated_437 : decode cX12_seated 437 = .ok (.iload 8, 2) := by decide +kernel
theorem dX12_seated_439 : decode cX12_seated 439 = .ok (.ifCond .lt 80, 3) := by decide +kernel
theorem dX12_seated_442 : decode cX12_seated 442 = .ok (.aload_n 0, 1) := by decide +kernel
theorem dX12_seated_443 : decode cX12_seated 443 = .ok (.getfield 192, 3) := by decide +kernel
theorem dX12_seated_446 : decode cX12_seated 446 = .ok (.iload 8, 2) := by decide +kernel
theorem dX12_seated_448 : decode cX12_seated 448 = .ok (.iaload, 1) := by decide +kernel
theorem dX12_seated_449 : decode cX12_seated 449 = .ok (.aload_n 0, 1) := by decide +kernel
theorem dX12_seated_450 : decode cX12_seated 450 = .ok (.getfield 260, 3) := by decide +kernel
theorem dX12_seated_453 : decode cX12_seated 453 = .ok (.iconst 1, 1) := by decide +kernel
theorem dX12_seated_454 : decode cX12_seated 454 = .ok (.isub, 1) := by decide +kernel
theorem dX12_seated_455 : decode cX12_seated 455 = .ok (.if_icmp .ne 64, 3) := by decide +kernel
theorem dX12_seated_458 : decode cX12_seated 458 = .ok (.aload_n 0, 1) := by decide +kernel
theorem dX12_seated_459 : decode cX12_seated 459 = .ok (.getfield 198, 3) := by decide +kernel
theorem dX12_seated_462 : decode cX12_seated 462 = .ok (.aload_n 0, 1) := by decide +kernel
theorem dX12_seated_463 : decode cX12_seated 463 = .ok (.getfield 260, 3) := by decide +kernel
theorem dX12_seated_466 : decode cX12_seated 466 = .ok (.iconst 1, 1) := by decide +kernel
theorem dX12_seated_467 : decode cX12_seated 467 = .ok (.isub, 1) := by decide +kernel
theorem dX12_seated_468 : decode cX12_seated 468 = .ok (.dup2, 1) := by decide +kernel
theorem dX12_seated_469 : decode cX12_seated 469 = .ok (.iaload, 1) := by decide +kernel
theorem dX12_seated_470 : decode cX12_seated 470 = .ok (.aload_n 0, 1) := by decide +kernel
theorem dX12_seated_471 : decode cX12_seated 471 = .ok (.getfield 58, 3) := by decide +kernel
theorem dX12_seated_474 : decode cX12_seated 474 = .ok (.aload_n 0, 1) := by decide +kernel
theorem dX12_seated_475 : decode cX12_seated 475 = .ok (.getfield 7, 3) := by decide +kernel
theorem dX12_seated_478 : decode cX12_seated 478 = .ok (.iload 8, 2) := by decide +kernel
theorem dX12_seated_480 : decode cX12_seated 480 = .ok (.iaload, 1) := by decide +kernel
theorem dX12_seated_481 : decode cX12_seated 481 = .ok (.iaload, 1) := by decide +kernel
theorem dX12_seated_482 : decode cX12_seated 482 = .ok (.isub, 1) := by decide +kernel
theorem dX12_seated_483 : decode cX12_seated 483 = .ok (.iastore, 1) := by decide +kernel
theorem dX12_seated_484 : decode cX12_seated 484 = .ok (.aload_n 0, 1) := by decide +kernel
theorem dX12_seated_485 : decode cX12_seated 485 = .ok (.getfield 192, 3) := by decide +kernel
theorem dX12_seated_488 : decode cX12_seated 488 = .ok (.iload 8, 2) := by decide +kernel
theorem dX12_seated_490 : decode cX12_seated 490 = .ok (.iconst 0, 1) := by decide +kernel
theorem dX12_seated_491 : decode cX12_seated 491 = .ok (.iastore, 1) := by decide +kernel
theorem dX12_seated_492 : decode cX12_seated 492 = .ok (.aload_n 0, 1) := by decide +kernel
theorem dX12_seated_493 : decode cX12_seated 493 = .ok (.getfield 198, 3) := by decide +kernel
theorem dX12_seated_496 : decode cX12_seated 496 = .ok (.iconst 0, 1) := by decide +kernel
theorem dX12_seated_497 : decode cX12_seated 497 = .ok (.dup2, 1) := by decide +kernel
theorem dX12_seated_498 : decode cX12_seated 498 = .ok (.iaload, 1) := by decide +kernel
theorem dX12_seated_499 : decode cX12_seated 499 = .ok (.aload_n 0, 1) := by decide +kernel
theorem dX12_seated_500 : decode cX12_seated 500 = .ok (.getfield 58, 3) := by decide +kernel
theorem dX12_seated_503 : decode cX12_seated 503 = .ok (.aload_n 0, 1) := by decide +kernel
theorem dX12_seated_504 : decode cX12_seated 504 = .ok (.getfield 7, 3) := by decide +kernel
theorem dX12_seated_507 : decode cX12_seated 507 = .ok (.iload 8, 2) := by decide +kernel
theorem dX12_seated_509 : decode cX12_seated 509 = .ok (.iaload, 1) := by decide +kernel
theorem dX12_seated_510 : decode cX12_seated 510 = .ok (.iaload, 1) := by decide +kernel
theorem dX12_seated_511 : decode cX12_seated 511 = .ok (.iadd, 1) := by decide +kernel
theorem dX12_seated_512 : decode cX12_seated 512 = .ok (.iastore, 1) := by decide +kernel
theorem dX12_seated_513 : decode cX12_seated 513 = .ok (.iinc 8 (-1), 3) := by decide +kernel
theorem dX12_seated_516 : decode cX12_seated 516 = .ok (.goto (-79), 3) := by decide +kernel
theorem dX12_seated_519 : decode cX12_seated 519 = .ok (.iload 8, 2) := by decide +kernel
theorem dX12_seated_521 : decode cX12_seated 521 = .ok (.ifCond .lt 7, 3) := by decide +kernel
theorem dX12_seated_524 : decode cX12_seated 524 = .ok (.iconst 1, 1) := by decide +kernel
theorem dX12_seated_525 : decode cX12_seated 525 = .ok (.goto 4, 3) := by decide +kernel
theorem dX12_seated_528 : decode cX12_seated 528 = .ok (.iconst 0, 1) := by decide +kernel
theorem dX12_seated_529 : decode cX12_seated 529 = .ok (.istore 6, 2) := by decide +kernel
theorem dX12_seated_531 : decode cX12_seated 531 = .ok (.iload 6, 2) := by decide +kernel
theorem dX12_seated_533 : decode cX12_seated 533 = .ok (.ifCond .ne 6, 3) := by decide +kernel
theorem dX12_seated_536 : decode cX12_seated 536 = .ok (.goto (-176), 3) := by decide +kernel
theorem dX12_seated_539 : decode cX12_seated 539 = .ok (.aload_n 0, 1) := by decide +kernel
theorem dX12_seated_540 : decode cX12_seated 540 = .ok (.getfield 198, 3) := by decide +kernel
theorem dX12_seated_543 : decode cX12_seated 543 = .ok (.aload_n 0, 1) := by decide +kernel
theorem dX12_seated_544 : decode cX12_seated 544 = .ok (.getfield 192, 3) := by decide +kernel
theorem dX12_seated_547 : decode cX12_seated 547 = .ok (.iload 8, 2) := by decide +kernel
theorem dX12_seated_549 : decode cX12_seated 549 = .ok (.iaload, 1) := by decide +kernel
theorem dX12_seated_550 : decode cX12_seated 550 = .ok (.dup2, 1) := by decide +kernel
theorem dX12_seated_551 : decode cX12_seated 551 = .ok (.iaload, 1) := by decide +kernel
theorem dX12_seated_552 : decode cX12_seated 552 = .ok (.aload_n 0, 1) := by decide +kernel
theorem dX12_seated_553 : decode cX12_seated 553 = .ok (.getfield 58, 3) := by decide +kernel
theorem dX12_seated_556 : decode cX12_seated 556 = .ok (.aload_n 0, 1) := by decide +kernel
theorem dX12_seated_557 : decode cX12_seated 557 = .ok (.getfield 7, 3) := by decide +kernel
theorem dX12_seated_560 : decode cX12_seated 560 = .ok (.iload 8, 2) := by decide +kernel
theorem dX12_seated_562 : decode cX12_seated 562 = .ok (.iaload, 1) := by decide +kernel
theorem dX12_seated_563 : decode cX12_seated 563 = .ok (.iaload, 1) := by decide +kernel
theorem dX12_seated_564 : decode cX12_seated 564 = .ok (.isub, 1) := by decide +kernel
theorem dX12_seated_565 : decode cX12_seated 565 = .ok (.iastore, 1) := by decide +kernel
theorem dX12_seated_566 : decode cX12_seated 566 = .ok (.aload_n 0, 1) := by decide +kernel
theorem dX12_seated_567 : decode cX12_seated 567 = .ok (.getfield 192, 3) := by decide +kernel
theorem dX12_seated_570 : decode cX12_seated 570 = .ok (.iload 8, 2) := by decide +kernel
theorem dX12_seated_572 : decode cX12_seated 572 = .ok (.dup2, 1) := by decide +kernel
theorem dX12_seated_573 : decode cX12_seated 573 = .ok (.iaload, 1) := by decide +kernel
theorem dX12_seated_574 : decode cX12_seated 574 = .ok (.iconst 1, 1) := by decide +kernel
theorem dX12_seated_575 : decode cX12_seated 575 = .ok (.iadd, 1) := by decide +kernel
theorem dX12_seated_576 : decode cX12_seated 576 = .ok (.iastore, 1) := by decide +kernel
theorem dX12_seated_577 : decode cX12_seated 577 = .ok (.aload_n 0, 1) := by decide +kernel
theorem dX12_seated_578 : decode cX12_seated 578 = .ok (.getfield 198, 3) := by decide +kernel
theorem dX12_seated_581 : decode cX12_seated 581 = .ok (.aload_n 0, 1) := by decide +kernel
theorem dX12_seated_582 : decode cX12_seated 582 = .ok (.getfield 192, 3) := by decide +kernel
theorem dX12_seated_585 : decode cX12_seated 585 = .ok (.iload 8, 2) := by decide +kernel
theorem dX12_seated_587 : decode cX12_seated 587 = .ok (.iaload, 1) := by decide +kernel
theorem dX12_seated_588 : decode cX12_seated 588 = .ok (.dup2, 1) := by decide +kernel
theorem dX12_seated_589 : decode cX12_seated 589 = .ok (.iaload, 1) := by decide +kernel
theorem dX12_seated_590 : decode cX12_seated 590 = .ok (.aload_n 0, 1) := by decide +kernel
theorem dX12_seated_591 : decode cX12_seated 591 = .ok (.getfield 58, 3) := by decide +kernel
theorem dX12_seated_594 : decode cX12_seated 594 = .ok (.aload_n 0, 1) := by decide +kernel
theorem dX12_seated_595 : decode cX12_seated 595 = .ok (.getfield 7, 3) := by decide +kernel
theorem dX12_seated_598 : decode cX12_seated 598 = .ok (.iload 8, 2) := by decide +kernel
theorem dX12_seated_600 : decode cX12_seated 600 = .ok (.iaload, 1) := by decide +kernel
theorem dX12_seated_601 : decode cX12_seated 601 = .ok (.iaload, 1) := by decide +kernel
theorem dX12_seated_602 : decode cX12_seated 602 = .ok (.iadd, 1) := by decide +kernel
theorem dX12_seated_603 : decode cX12_seated 603 = .ok (.iastore, 1) := by decide +kernel
theorem dX12_seated_604 : decode cX12_seated 604 = .ok (.goto (-244), 3) := by decide +kernel
theorem dX12_seated_607 : decode cX12_seated 607 = .ok (.aload_n 0, 1) := by decide +kernel
theorem dX12_seated_608 : decode cX12_seated 608 = .ok (.iload_n 2, 1) := by decide +kernel
theorem dX12_seated_609 : decode cX12_seated 609 = .ok (.putfield 490, 3) := by decide +kernel
theorem dX12_seated_612 : decode cX12_seated 612 = .ok (.iload 5, 2) := by decide +kernel
theorem dX12_seated_614 : decode cX12_seated 614 = .ok (.ireturn, 1) := by decide +kernel
def w8 (k : Int) : Int := if k = 4 then 1 else if k = 3 then 8 else if k = 2 then 64 else if k = 1 then 512 else if k = 0 then 4096 else 32768
def V8 (g : Nat → Int32) : Int := 4096 * (g 0).toInt + 512 * (g 1).toInt + 64 * (g 2).toInt + 8 * (g 3).toInt + (g 4).toInt
theorem V8_b {g : Nat → Int32} (h : ∀ i, 0 ≤ (g i).toInt ∧ (g i).toInt ≤ 7) : 0 ≤ V8 g ∧ V8 g ≤ 32767 := by
  have h0 := h 0; have h1 := h 1; have h2 := h 2; have h3 := h 3; have h4 := h 4
  unfold V8; omega
theorem w8_c {k : Int} (h : 0 ≤ k ∧ k ≤ 4) : k = 0 ∨ k = 1 ∨ k = 2 ∨ k = 3 ∨ k = 4 := by omega
theorem w8_s {k : Int} (h : 0 ≤ k ∧ k ≤ 4) : w8 (k - 1) = 8 * w8 k := by
  rcases w8_c h with rfl | rfl | rfl | rfl | rfl <;> rfl
theorem w8_p {k : Int} (h : -1 ≤ k ∧ k ≤ 4) : 1 ≤ w8 k := by
  rcases (show k = -1 ∨ k = 0 ∨ k = 1 ∨ k = 2 ∨ k = 3 ∨ k = 4 from by omega) with rfl | rfl | rfl | rfl | rfl | rfl <;> decide
theorem V8_z {g g1 : Nat → Int32} {k : Int} {x : Int32} (h : ∀ i, 0 ≤ (g i).toInt ∧ (g i).toInt ≤ 7) (hk : 0 ≤ k ∧ k ≤ 4) (e : g1 = upd g k.toNat x) (hx : x.toInt = 0) : V8 g ≤ V8 g1 + 7 * w8 k := by
  subst e
  have h0 := h 0; have h1 := h 1; have h2 := h 2; have h3 := h 3; have h4 := h 4
  rcases w8_c hk with rfl | rfl | rfl | rfl | rfl
  · show _ ≤ 4096 * x.toInt + 512 * (g 1).toInt + 64 * (g 2).toInt + 8 * (g 3).toInt + (g 4).toInt + 7 * 4096; unfold V8; omega
  · show _ ≤ 4096 * (g 0).toInt + 512 * x.toInt + 64 * (g 2).toInt + 8 * (g 3).toInt + (g 4).toInt + 7 * 512; unfold V8; omega
  · show _ ≤ 4096 * (g 0).toInt + 512 * (g 1).toInt + 64 * x.toInt + 8 * (g 3).toInt + (g 4).toInt + 7 * 64; unfold V8; omega
  · show _ ≤ 4096 * (g 0).toInt + 512 * (g 1).toInt + 64 * (g 2).toInt + 8 * x.toInt + (g 4).toInt + 7 * 8; unfold V8; omega
  · show _ ≤ 4096 * (g 0).toInt + 512 * (g 1).toInt + 64 * (g 2).toInt + 8 * (g 3).toInt + x.toInt + 7 * 1; unfold V8; omega
theorem V8_i {g g1 : Nat → Int32} {k : Int} {x : Int32} (hk : 0 ≤ k ∧ k ≤ 4) (e : g1 = upd g k.toNat x) (hx : x.toInt = (g k.toNat).toInt + 1) : V8 g1 = V8 g + w8 k := by
  subst e
  rcases w8_c hk with rfl | rfl | rfl | rfl | rfl
  · have hx : x.toInt = (g 0).toInt + 1 := hx
    show 4096 * x.toInt + 512 * (g 1).toInt + 64 * (g 2).toInt + 8 * (g 3).toInt + (g 4).toInt = _ + 4096; unfold V8; omega
  · have hx : x.toInt = (g 1).toInt + 1 := hx
    show 4096 * (g 0).toInt + 512 * x.toInt + 64 * (g 2).toInt + 8 * (g 3).toInt + (g 4).toInt = _ + 512; unfold V8; omega
  · have hx : x.toInt = (g 2).toInt + 1 := hx
    show 4096 * (g 0).toInt + 512 * (g 1).toInt + 64 * x.toInt + 8 * (g 3).toInt + (g 4).toInt = _ + 64; unfold V8; omega
  · have hx : x.toInt = (g 3).toInt + 1 := hx
    show 4096 * (g 0).toInt + 512 * (g 1).toInt + 64 * (g 2).toInt + 8 * x.toInt + (g 4).toInt = _ + 8; unfold V8; omega
  · have hx : x.toInt = (g 4).toInt + 1 := hx
    show 4096 * (g 0).toInt + 512 * (g 1).toInt + 64 * (g 2).toInt + 8 * (g 3).toInt + x.toInt = _ + 1; unfold V8; omega
theorem pS_ad {g g1 : Nat → Int32} {k k1 : Int} {z : Int} {i : Nat} {x : Int32} (h : ∀ j : Nat, (j : Int) < k → (g j).toInt ≤ z) (e : g1 = upd g i x) (hi : (i : Int) = k) (hk : k1 = k + 1) (hx : x.toInt ≤ z) : ∀ j : Nat, (j : Int) < k1 → (g1 j).toInt ≤ z := by
  intro j hj
  rw [e]
  by_cases q : j = i
  · rw [q, up_eq]; exact hx
  · rw [up_ne q]; exact h j (by omega)
theorem pS_up {g g1 : Nat → Int32} {n : Int} {z : Int} {i : Nat} {x : Int32} (h : ∀ j : Nat, (j : Int) < n → (g j).toInt ≤ z) (e : g1 = upd g i x) (hx : x.toInt ≤ z) : ∀ j : Nat, (j : Int) < n → (g1 j).toInt ≤ z := by
  intro j hj
  rw [e]
  by_cases q : j = i
  · rw [q, up_eq]; exact hx
  · rw [up_ne q]; exact h j hj
