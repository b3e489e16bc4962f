theorem dX12_seated_0 : decode cX12_seated 0 = .ok (.aload_n 0, 1) := by decide +kernel
theorem dX12_seated_1 : decode cX12_seated 1 = .ok (.iconst 0, 1) := by decide +kernel
theorem dX12_seated_2 : decode cX12_seated 2 = .ok (.putfield 204, 3) := by decide +kernel
theorem dX12_seated_5 : decode cX12_seated 5 = .ok (.aload_n 0, 1) := by decide +kernel
theorem dX12_seated_6 : decode cX12_seated 6 = .ok (.invokevirtual 240, 3) := by decide +kernel
theorem dX12_seated_9 : decode cX12_seated 9 = .ok (.istore_n 2, 1) := by decide +kernel
theorem dX12_seated_10 : decode cX12_seated 10 = .ok (.iload_n 2, 1) := by decide +kernel
theorem dX12_seated_11 : decode cX12_seated 11 = .ok (.iconst 1, 1) := by decide +kernel
theorem dX12_seated_12 : decode cX12_seated 12 = .ok (.iconst 5, 1) := by decide +kernel
theorem dX12_seated_13 : decode cX12_seated 13 = .ok (.invokestatic 214, 3) := by decide +kernel
theorem dX12_seated_16 : decode cX12_seated 16 = .ok (.ifCond .eq 21, 3) := by decide +kernel
theorem dX12_seated_19 : decode cX12_seated 19 = .ok (.iload_n 1, 1) := by decide +kernel
theorem dX12_seated_20 : decode cX12_seated 20 = .ok (.iconst 0, 1) := by decide +kernel
theorem dX12_seated_21 : decode cX12_seated 21 = .ok (.sipush 200, 3) := by decide +kernel
theorem dX12_seated_24 : decode cX12_seated 24 = .ok (.invokestatic 214, 3) := by decide +kernel
theorem dX12_seated_27 : decode cX12_seated 27 = .ok (.ifCond .eq 10, 3) := by decide +kernel
theorem dX12_seated_30 : decode cX12_seated 30 = .ok (.aload_n 0, 1) := by decide +kernel
theorem dX12_seated_31 : decode cX12_seated 31 = .ok (.getfield 260, 3) := by decide +kernel
theorem dX12_seated_34 : decode cX12_seated 34 = .ok (.ifCond .ne 5, 3) := by decide +kernel
theorem dX12_seated_37 : decode cX12_seated 37 = .ok (.iconst (-1), 1) := by decide +kernel
theorem dX12_seated_38 : decode cX12_seated 38 = .ok (.ireturn, 1) := by decide +kernel
theorem dX12_seated_39 : decode cX12_seated 39 = .ok (.iconst 0, 1) := by decide +kernel
theorem dX12_seated_40 : decode cX12_seated 40 = .ok (.istore_n 3, 1) := by decide +kernel
theorem dX12_seated_41 : decode cX12_seated 41 = .ok (.iconst 0, 1) := by decide +kernel
theorem dX12_seated_42 : decode cX12_seated 42 = .ok (.istore 4, 2) := by decide +kernel
theorem dX12_seated_44 : decode cX12_seated 44 = .ok (.iload 4, 2) := by decide +kernel
theorem dX12_seated_46 : decode cX12_seated 46 = .ok (.iload_n 2, 1) := by decide +kernel
theorem dX12_seated_47 : decode cX12_seated 47 = .ok (.if_icmp .ge 52, 3) := by decide +kernel
theorem dX12_seated_50 : decode cX12_seated 50 = .ok (.aload_n 0, 1) := by decide +kernel
theorem dX12_seated_51 : decode cX12_seated 51 = .ok (.aload_n 0, 1) := by decide +kernel
theorem dX12_seated_52 : decode cX12_seated 52 = .ok (.getfield 7, 3) := by decide +kernel
theorem dX12_seated_55 : decode cX12_seated 55 = .ok (.iload 4, 2) := by decide +kernel
theorem dX12_seated_57 : decode cX12_seated 57 = .ok (.iaload, 1) := by decide +kernel
theorem dX12_seated_58 : decode cX12_seated 58 = .ok (.invokevirtual 266, 3) := by decide +kernel
theorem dX12_seated_61 : decode cX12_seated 61 = .ok (.ifCond .eq 18, 3) := by decide +kernel
theorem dX12_seated_64 : decode cX12_seated 64 = .ok (.iload_n 3, 1) := by decide +kernel
theorem dX12_seated_65 : decode cX12_seated 65 = .ok (.aload_n 0, 1) := by decide +kernel
theorem dX12_seated_66 : decode cX12_seated 66 = .ok (.getfield 7, 3) := by decide +kernel
theorem dX12_seated_69 : decode cX12_seated 69 = .ok (.iload 4, 2) := by decide +kernel
theorem dX12_seated_71 : decode cX12_seated 71 = .ok (.iaload, 1) := by decide +kernel
theorem dX12_seated_72 : decode cX12_seated 72 = .ok (.ishr, 1) := by decide +kernel
theorem dX12_seated_73 : decode cX12_seated 73 = .ok (.iconst 1, 1) := by decide +kernel
theorem dX12_seated_74 : decode cX12_seated 74 = .ok (.iand, 1) := by decide +kernel
theorem dX12_seated_75 : decode cX12_seated 75 = .ok (.iconst 1, 1) := by decide +kernel
theorem dX12_seated_76 : decode cX12_seated 76 = .ok (.if_icmp .ne 5, 3) := by decide +kernel
theorem dX12_seated_79 : decode cX12_seated 79 = .ok (.iconst (-1), 1) := by decide +kernel
theorem dX12_seated_80 : decode cX12_seated 80 = .ok (.ireturn, 1) := by decide +kernel
theorem dX12_seated_81 : decode cX12_seated 81 = .ok (.iload_n 3, 1) := by decide +kernel
theorem dX12_seated_82 : decode cX12_seated 82 = .ok (.iconst 1, 1) := by decide +kernel
theorem dX12_seated_83 : decode cX12_seated 83 = .ok (.aload_n 0, 1) := by decide +kernel
theorem dX12_seated_84 : decode cX12_seated 84 = .ok (.getfield 7, 3) := by decide +kernel
theorem dX12_seated_87 : decode cX12_seated 87 = .ok (.iload 4, 2) := by decide +kernel
theorem dX12_seated_89 : decode cX12_seated 89 = .ok (.iaload, 1) := by decide +kernel
theorem dX12_seated_90 : decode cX12_seated 90 = .ok (.ishl, 1) := by decide +kernel
theorem dX12_seated_91 : decode cX12_seated 91 = .ok (.ior, 1) := by decide +kernel
theorem dX12_seated_92 : decode cX12_seated 92 = .ok (.istore_n 3, 1) := by decide +kernel
theorem dX12_seated_93 : decode cX12_seated 93 = .ok (.iinc 4 1, 3) := by decide +kernel
theorem dX12_seated_96 : decode cX12_seated 96 = .ok (.goto (-52), 3) := by decide +kernel
theorem dX12_seated_99 : decode cX12_seated 99 = .ok (.iconst 0, 1) := by decide +kernel
theorem dX12_seated_100 : decode cX12_seated 100 = .ok (.istore 4, 2) := by decide +kernel
theorem dX12_seated_102 : decode cX12_seated 102 = .ok (.iload 4, 2) := by decide +kernel
theorem dX12_seated_104 : decode cX12_seated 104 = .ok (.aload_n 0, 1) := by decide +kernel
theorem dX12_seated_105 : decode cX12_seated 105 = .ok (.getfield 254, 3) := by decide +kernel
theorem dX12_seated_108 : decode cX12_seated 108 = .ok (.if_icmp .ge 96, 3) := by decide +kernel
theorem dX12_seated_111 : decode cX12_seated 111 = .ok (.aload_n 0, 1) := by decide +kernel
theorem dX12_seated_112 : decode cX12_seated 112 = .ok (.getfield 189, 3) := by decide +kernel
theorem dX12_seated_115 : decode cX12_seated 115 = .ok (.iload 4, 2) := by decide +kernel
theorem dX12_seated_117 : decode cX12_seated 117 = .ok (.iconst 0, 1) := by decide +kernel
theorem dX12_seated_118 : decode cX12_seated 118 = .ok (.iastore, 1) := by decide +kernel
theorem dX12_seated_119 : decode cX12_seated 119 = .ok (.iconst 0, 1) := by decide +kernel
theorem dX12_seated_120 : decode cX12_seated 120 = .ok (.istore 5, 2) := by decide +kernel
theorem dX12_seated_122 : decode cX12_seated 122 = .ok (.iload 5, 2) := by decide +kernel
theorem dX12_seated_124 : decode cX12_seated 124 = .ok (.aload_n 0, 1) := by decide +kernel
theorem dX12_seated_125 : decode cX12_seated 125 = .ok (.getfield 260, 3) := by decide +kernel
theorem dX12_seated_128 : decode cX12_seated 128 = .ok (.if_icmp .ge 70, 3) := by decide +kernel
theorem dX12_seated_131 : decode cX12_seated 131 = .ok (.aload_n 0, 1) := by decide +kernel
theorem dX12_seated_132 : decode cX12_seated 132 = .ok (.aload_n 0, 1) := by decide +kernel
theorem dX12_seated_133 : decode cX12_seated 133 = .ok (.getfield 19, 3) := by decide +kernel
theorem dX12_seated_136 : decode cX12_seated 136 = .ok (.iload 4, 2) := by decide +kernel
theorem dX12_seated_138 : decode cX12_seated 138 = .ok (.iaload, 1) := by decide +kernel
theorem dX12_seated_139 : decode cX12_seated 139 = .ok (.aload_n 0, 1) := by decide +kernel
theorem dX12_seated_140 : decode cX12_seated 140 = .ok (.getfield 49, 3) := by decide +kernel
theorem dX12_seated_143 : decode cX12_seated 143 = .ok (.iload 5, 2) := by decide +kernel
theorem dX12_seated_145 : decode cX12_seated 145 = .ok (.iaload, 1) := by decide +kernel
theorem dX12_seated_146 : decode cX12_seated 146 = .ok (.invokevirtual 236, 3) := by decide +kernel
theorem dX12_seated_149 : decode cX12_seated 149 = .ok (.ldc 225, 2) := by decide +kernel
theorem dX12_seated_151 : decode cX12_seated 151 = .ok (.if_icmp .ge 41, 3) := by decide +kernel
theorem dX12_seated_154 : decode cX12_seated 154 = .ok (.aload_n 0, 1) := by decide +kernel
theorem dX12_seated_155 : decode cX12_seated 155 = .ok (.iload 4, 2) := by decide +kernel
theorem dX12_seated_157 : decode cX12_seated 157 = .ok (.aload_n 0, 1) := by decide +kernel
theorem dX12_seated_158 : decode cX12_seated 158 = .ok (.getfield 19, 3) := by decide +kernel
theorem dX12_seated_161 : decode cX12_seated 161 = .ok (.iload 4, 2) := by decide +kernel
theorem dX12_seated_163 : decode cX12_seated 163 = .ok (.iaload, 1) := by decide +kernel
theorem dX12_seated_164 : decode cX12_seated 164 = .ok (.aload_n 0, 1) := by decide +kernel
theorem dX12_seated_165 : decode cX12_seated 165 = .ok (.getfield 49, 3) := by decide +kernel
theorem dX12_seated_168 : decode cX12_seated 168 = .ok (.iload 5, 2) := by decide +kernel
theorem dX12_seated_170 : decode cX12_seated 170 = .ok (.iaload, 1) := by decide +kernel
theorem dX12_seated_171 : decode cX12_seated 171 = .ok (.invokevirtual 439, 3) := by decide +kernel
theorem dX12_seated_174 : decode cX12_seated 174 = .ok (.iload_n 1, 1) := by decide +kernel
theorem dX12_seated_175 : decode cX12_seated 175 = .ok (.if_icmp .gt 17, 3) := by decide +kernel
theorem dX12_seated_178 : decode cX12_seated 178 = .ok (.aload_n 0, 1) := by decide +kernel
theorem dX12_seated_179 : decode cX12_seated 179 = .ok (.getfield 189, 3) := by decide +kernel
theorem dX12_seated_182 : decode cX12_seated 182 = .ok (.iload 4, 2) := by decide +kernel
theorem dX12_seated_184 : decode cX12_seated 184 = .ok (.dup2, 1) := by decide +kernel
theorem dX12_seated_185 : decode cX12_seated 185 = .ok (.iaload, 1) := by decide +kernel
theorem dX12_seated_186 : decode cX12_seated 186 = .ok (.iconst 1, 1) := by decide +kernel
theorem dX12_seated_187 : decode cX12_seated 187 = .ok (.iload 5, 2) := by decide +kernel
theorem dX12_seated_189 : decode cX12_seated 189 = .ok (.ishl, 1) := by decide +kernel
theorem dX12_seated_190 : decode cX12_seated 190 = .ok (.ior, 1) := by decide +kernel
theorem dX12_seated_191 : decode cX12_seated 191 = .ok (.iastore, 1) := by decide +kernel
theorem dX12_seated_192 : decode cX12_seated 192 = .ok (.iinc 5 1, 3) := by decide +kernel
theorem dX12_seated_195 : decode cX12_seated 195 = .ok (.goto (-73), 3) := by decide +kernel
theorem dX12_seated_198 : decode cX12_seated 198 = .ok (.iinc 4 1, 3) := by decide +kernel
theorem dX12_seated_201 : decode cX12_seated 201 = .ok (.goto (-99), 3) := by decide +kernel
theorem dX12_seated_204 : decode cX12_seated 204 = .ok (.iconst 0, 1) := by decide +kernel
theorem dX12_seated_205 : decode cX12_seated 205 = .ok (.istore 4, 2) := by decide +kernel
theorem dX12_seated_207 : decode cX12_seated 207 = .ok (.iload 4, 2) := by decide +kernel
theorem dX12_seated_209 : decode cX12_seated 209 = .ok (.iconst 1, 1) := by decide +kernel
theorem dX12_seated_210 : decode cX12_seated 210 = .ok (.aload_n 0, 1) := by decide +kernel
theorem dX12_seated_211 : decode cX12_seated 211 = .ok (.getfield 260, 3) := by decide +kernel
theorem dX12_seated_214 : decode cX12_seated 214 = .ok (.ishl, 1) := by decide +kernel
theorem dX12_seated_215 : decode cX12_seated 215 = .ok (.if_icmp .ge 61, 3) := by decide +kernel
theorem dX12_seated_218 : decode cX12_seated 218 = .ok (.aload_n 0, 1) := by decide +kernel
theorem dX12_seated_219 : decode cX12_seated 219 = .ok (.getfield 201, 3) := by decide +kernel
theorem dX12_seated_222 : decode cX12_seated 222 = .ok (.iload 4, 2) := by decide +kernel
theorem dX12_seated_224 : decode cX12_seated 224 = .ok (.iconst 0, 1) := by decide +kernel
theorem dX12_seated_225 : decode cX12_seated 225 = .ok (.iastore, 1) := by decide +kernel
theorem dX12_seated_226 : decode cX12_seated 226 = .ok (.iconst 0, 1) := by decide +kernel
theorem dX12_seated_227 : decode cX12_seated 227 = .ok (.istore 5, 2) := by decide +kernel
theorem dX12_seated_229 : decode cX12_seated 229 = .ok (.iload 5, 2) := by decide +kernel
theorem dX12_seated_231 : decode cX12_seated 231 = .ok (.aload_n 0, 1) := by decide +kernel
theorem dX12_seated_232 : decode cX12_seated 232 = .ok (.getfield 254, 3) := by decide +kernel
theorem dX12_seated_235 : decode cX12_seated 235 = .ok (.if_icmp .ge 35, 3) := by decide +kernel
theorem dX12_seated_238 : decode cX12_seated 238 = .ok (.aload_n 0, 1) := by decide +kernel
theorem dX12_seated_239 : decode cX12_seated 239 = .ok (.getfield 189, 3) := by decide +kernel
theorem dX12_seated_242 : decode cX12_seated 242 = .ok (.iload 5, 2) := by decide +kernel
theorem dX12_seated_244 : decode cX12_seated 244 = .ok (.iaload, 1) := by decide +kernel
theorem dX12_seated_245 : decode cX12_seated 245 = .ok (.iload 4, 2) := by decide +kernel
theorem dX12_seated_247 : decode cX12_seated 247 = .ok (.iconst (-1), 1) := by decide +kernel
theorem dX12_seated_248 : decode cX12_seated 248 = .ok (.ixor, 1) := by decide +kernel
theorem dX12_seated_249 : decode cX12_seated 249 = .ok (.iand, 1) := by decide +kernel
theorem dX12_seated_250 : decode cX12_seated 250 = .ok (.ifCond .eq 14, 3) := by decide +kernel
theorem dX12_seated_253 : decode cX12_seated 253 = .ok (.aload_n 0, 1) := by decide +kernel
theorem dX12_seated_254 : decode cX12_seated 254 = .ok (.getfield 201, 3) := by decide +kernel
theorem dX12_seated_257 : decode cX12_seated 257 = .ok (.iload 4, 2) := by decide +kernel
theorem dX12_seated_259 : decode cX12_seated 259 = .ok (.dup2, 1) := by decide +kernel
theorem dX12_seated_260 : decode cX12_seated 260 = .ok (.iaload, 1) := by decide +kernel
theorem dX12_seated_261 : decode cX12_seated 261 = .ok (.iconst 1, 1) := by decide +kernel
theorem dX12_seated_262 : decode cX12_seated 262 = .ok (.iadd, 1) := by decide +kernel
theorem dX12_seated_263 : decode cX12_seated 263 = .ok (.iastore, 1) := by decide +kernel
theorem dX12_seated_264 : decode cX12_seated 264 = .ok (.iinc 5 1, 3) := by decide +kernel
theorem dX12_seated_267 : decode cX12_seated 267 = .ok (.goto (-38), 3) := by decide +kernel
theorem dX12_seated_270 : decode cX12_seated 270 = .ok (.iinc 4 1, 3) := by decide +kernel
theorem dX12_seated_273 : decode cX12_seated 273 = .ok (.goto (-66), 3) := by decide +kernel
theorem dX12_seated_276 : decode cX12_seated 276 = .ok (.iconst 0, 1) := by decide +kernel
theorem dX12_seated_277 : decode cX12_seated 277 = .ok (.istore 4, 2) := by decide +kernel
theorem dX12_seated_279 : decode cX12_seated 279 = .ok (.iload 4, 2) := by decide +kernel
theorem dX12_seated_281 : decode cX12_seated 281 = .ok (.aload_n 0, 1) := by decide +kernel
theorem dX12_seated_282 : decode cX12_seated 282 = .ok (.getfield 260, 3) := by decide +kernel
theorem dX12_seated_285 : decode cX12_seated 285 = .ok (.if_icmp .ge 17, 3) := by decide +kernel
theorem dX12_seated_288 : decode cX12_seated 288 = .ok (.aload_n 0, 1) := by decide +kernel
theorem dX12_seated_289 : decode cX12_seated 289 = .ok (.getfield 198, 3) := by decide +kernel
theorem dX12_seated_292 : decode cX12_seated 292 = .ok (.iload 4, 2) := by decide +kernel
theorem dX12_seated_294 : decode cX12_seated 294 = .ok (.iconst 0, 1) := by decide +kernel
theorem dX12_seated_295 : decode cX12_seated 295 = .ok (.iastore, 1) := by decide +kernel
theorem dX12_seated_296 : decode cX12_seated 296 = .ok (.iinc 4 1, 3) := by decide +kernel
theorem dX12_seated_299 : decode cX12_seated 299 = .ok (.goto (-20), 3) := by decide +kernel
theorem dX12_seated_302 : decode cX12_seated 302 = .ok (.iconst 0, 1) := by decide +kernel
theorem dX12_seated_303 : decode cX12_seated 303 = .ok (.istore 4, 2) := by decide +kernel
theorem dX12_seated_305 : decode cX12_seated 305 = .ok (.iload 4, 2) := by decide +kernel
theorem dX12_seated_307 : decode cX12_seated 307 = .ok (.iload_n 2, 1) := by decide +kernel
theorem dX12_seated_308 : decode cX12_seated 308 = .ok (.if_icmp .ge 38, 3) := by decide +kernel
theorem dX12_seated_311 : decode cX12_seated 311 = .ok (.aload_n 0, 1) := by decide +kernel
theorem dX12_seated_312 : decode cX12_seated 312 = .ok (.getfield 192, 3) := by decide +kernel
theorem dX12_seated_315 : decode cX12_seated 315 = .ok (.iload 4, 2) := by decide +kernel
theorem dX12_seated_317 : decode cX12_seated 317 = .ok (.iconst 0, 1) := by decide +kernel
theorem dX12_seated_318 : decode cX12_seated 318 = .ok (.iastore, 1) := by decide +kernel
theorem dX12_seated_319 : decode cX12_seated 319 = .ok (.aload_n 0, 1) := by decide +kernel
theorem dX12_seated_320 : decode cX12_seated 320 = .ok (.getfield 198, 3) := by decide +kernel
theorem dX12_seated_323 : decode cX12_seated 323 = .ok (.iconst 0, 1) := by decide +kernel
theorem dX12_seated_324 : decode cX12_seated 324 = .ok (.dup2, 1) := by decide +kernel
theorem dX12_seated_325 : decode cX12_seated 325 = .ok (.iaload, 1) := by decide +kernel
theorem dX12_seated_326 : decode cX12_seated 326 = .ok (.aload_n 0, 1) := by decide +kernel
theorem dX12_seated_327 : decode cX12_seated 327 = .ok (.getfield 58, 3) := by decide +kernel
theorem dX12_seated_330 : decode cX12_seated 330 = .ok (.aload_n 0, 1) := by decide +kernel
theorem dX12_seated_331 : decode cX12_seated 331 = .ok (.getfield 7, 3) := by decide +kernel
theorem dX12_seated_334 : decode cX12_seated 334 = .ok (.iload 4, 2) := by decide +kernel
theorem dX12_seated_336 : decode cX12_seated 336 = .ok (.iaload, 1) := by decide +kernel
theorem dX12_seated_337 : decode cX12_seated 337 = .ok (.iaload, 1) := by decide +kernel
theorem dX12_seated_338 : decode cX12_seated 338 = .ok (.iadd, 1) := by decide +kernel
theorem dX12_seated_339 : decode cX12_seated 339 = .ok (.iastore, 1) := by decide +kernel
theorem dX12_seated_340 : decode cX12_seated 340 = .ok (.iinc 4 1, 3) := by decide +kernel
theorem dX12_seated_343 : decode cX12_seated 343 = .ok (.goto (-38), 3) := by decide +kernel
theorem dX12_seated_346 : decode cX12_seated 346 = .ok (.aload_n 0, 1) := by decide +kernel
theorem dX12_seated_347 : decode cX12_seated 347 = .ok (.getfield 198, 3) := by decide +kernel
theorem dX12_seated_350 : decode cX12_seated 350 = .ok (.iconst 0, 1) := by decide +kernel
theorem dX12_seated_351 : decode cX12_seated 351 = .ok (.iaload, 1) := by decide +kernel
theorem dX12_seated_352 : decode cX12_seated 352 = .ok (.istore 4, 2) := by decide +kernel
theorem dX12_seated_354 : decode cX12_seated 354 = .ok (.iconst (-1), 1) := by decide +kernel
theorem dX12_seated_355 : decode cX12_seated 355 = .ok (.istore 5, 2) := by decide +kernel
theorem dX12_seated_357 : decode cX12_seated 357 = .ok (.iconst 1, 1) := by decide +kernel
theorem dX12_seated_358 : decode cX12_seated 358 = .ok (.istore 6, 2) := by decide +kernel
theorem dX12_seated_360 : decode cX12_seated 360 = .ok (.iload 6, 2) := by decide +kernel
theorem dX12_seated_362 : decode cX12_seated 362 = .ok (.ifCond .eq 245, 3) := by decide +kernel
theorem dX12_seated_365 : decode cX12_seated 365 = .ok (.aload_n 0, 1) := by decide +kernel
theorem dX12_seated_366 : decode cX12_seated 366 = .ok (.invokevirtual 487, 3) := by decide +kernel
theorem dX12_seated_369 : decode cX12_seated 369 = .ok (.istore 7, 2) := by decide +kernel
theorem dX12_seated_371 : decode cX12_seated 371 = .ok (.iload 7, 2) := by decide +kernel
theorem dX12_seated_373 : decode cX12_seated 373 = .ok (.iload 5, 2) := by decide +kernel
theorem dX12_seated_375 : decode cX12_seated 375 = .ok (.if_icmp .le 36, 3) := by decide +kernel
theorem dX12_seated_378 : decode cX12_seated 378 = .ok (.iload 7, 2) := by decide +kernel
theorem dX12_seated_380 : decode cX12_seated 380 = .ok (.istore 5, 2) := by decide +kernel
theorem dX12_seated_382 : decode cX12_seated 382 = .ok (.iconst 0, 1) := by decide +kernel
theorem dX12_seated_383 : decode cX12_seated 383 = .ok (.istore 8, 2) := by decide +kernel
theorem dX12_seated_385 : decode cX12_seated 385 = .ok (.iload 8, 2) := by decide +kernel
theorem dX12_seated_387 : decode cX12_seated 387 = .ok (.iload_n 2, 1) := by decide +kernel
theorem dX12_seated_388 : decode cX12_seated 388 = .ok (.if_icmp .ge 23, 3) := by decide +kernel
theorem dX12_seated_391 : decode cX12_seated 391 = .ok (.aload_n 0, 1) := by decide +kernel
theorem dX12_seated_392 : decode cX12_seated 392 = .ok (.getfield 195, 3) := by decide +kernel
theorem dX12_seated_395 : decode cX12_seated 395 = .ok (.iload 8, 2) := by decide +kernel
theorem dX12_seated_397 : decode cX12_seated 397 = .ok (.aload_n 0, 1) := by decide +kernel
theorem dX12_seated_398 : decode cX12_seated 398 = .ok (.getfield 192, 3) := by decide +kernel
theorem dX12_seated_401 : decode cX12_seated 401 = .ok (.iload 8, 2) := by decide +kernel
theorem dX12_seated_403 : decode cX12_seated 403 = .ok (.iaload, 1) := by decide +kernel
theorem dX12_seated_404 : decode cX12_seated 404 = .ok (.iastore, 1) := by decide +kernel
theorem dX12_seated_405 : decode cX12_seated 405 = .ok (.iinc 8 1, 3) := by decide +kernel
theorem dX12_seated_408 : decode cX12_seated 408 = .ok (.goto (-23), 3) := by decide +kernel
theorem dX12_seated_411 : decode cX12_seated 411 = .ok (.iload 5, 2) := by decide +kernel
theorem dX12_seated_413 : decode cX12_seated 413 = .ok (.aload_n 0, 1) := by decide +kernel
theorem dX12_seated_414 : decode cX12_seated 414 = .ok (.getfield 201, 3) := by decide +kernel
theorem dX12_seated_417 : decode cX12_seated 417 = .ok (.iconst 0, 1) := by decide +kernel
theorem dX12_seated_418 : decode cX12_seated 418 = .ok (.iaload, 1) := by decide +kernel
theorem dX12_seated_419 : decode cX12_seated 419 = .ok (.if_icmp .eq 188, 3) := by decide +kernel
theorem dX12_seated_422 : decode cX12_seated 422 = .ok (.iload 5, 2) := by decide +kernel
theorem dX12_seated_424 : decode cX12_seated 424 = .ok (.iload 4, 2) := by decide +kernel
theorem dX12_seated_426 : decode cX12_seated 426 = .ok (.if_icmp .ne 6, 3) := by decide +kernel
theorem dX12_seated_429 : decode cX12_seated 429 = .ok (.goto 178, 3) := by decide +kernel
theorem dX12_seated_432 : decode cX12_seated 432 = .ok (.iload_n 2, 1) := by decide +kernel
theorem dX12_seated_433 : decode cX12_seated 433 = .ok (.iconst 1, 1) := by decide +kernel
theorem dX12_seated_434 : decode cX12_seated 434 = .ok (.isub, 1) := by decide +kernel
theorem dX12_seated_435 : decode cX12_seated 435 = .ok (.istore 8, 2) := by decide +kernel
theorem dX12_seated_437 : decode cX12_seated 437 = .ok (.iload 8, 2) := by decide +kernel
theorem dX12_seated_439 : decode cX12_seated 439 = .ok (.ifCond .lt 80, 3) := by decide +kernel
theorem dX12_seated_442 : decode cX12_seated 442 = .ok (.aload_n 0, 1) := by decide +kernel
theorem dX12_seated_443 : decode cX12_seated 443 = .ok (.getfield 192, 3) := by decide +kernel
theorem dX12_seated_446 : decode cX12_seated 446 = .ok (.iload 8, 2) := by decide +kernel
theorem dX12_seated_448 : decode cX12_seated 448 = .ok (.iaload, 1) := by decide +kernel
theorem dX12_seated_449 : decode cX12_seated 449 = .ok (.aload_n 0, 1) := by decide +kernel
theorem dX12_seated_450 : decode cX12_seated 450 = .ok (.getfield 260, 3) := by decide +kernel
theorem dX12_seated_453 : decode cX12_seated 453 = .ok (.iconst 1, 1) := by decide +kernel
theorem dX12_seated_454 : decode cX12_seated 454 = .ok (.isub, 1) := by decide +kernel
theorem dX12_seated_455 : decode cX12_seated 455 = .ok (.if_icmp .ne 64, 3) := by decide +kernel
theorem dX12_seated_458 : decode cX12_seated 458 = .ok (.aload_n 0, 1) := by decide +kernel
theorem dX12_seated_459 : decode cX12_seated 459 = .ok (.getfield 198, 3) := by decide +kernel
theorem dX12_seated_462 : decode cX12_seated 462 = .ok (.aload_n 0, 1) := by decide +kernel
theorem dX12_seated_463 : decode cX12_seated 463 = .ok (.getfield 260, 3) := by decide +kernel
theorem dX12_seated_466 : decode cX12_seated 466 = .ok (.iconst 1, 1) := by decide +kernel
theorem dX12_seated_467 : decode cX12_seated 467 = .ok (.isub, 1) := by decide +kernel
theorem dX12_seated_468 : decode cX12_seated 468 = .ok (.dup2, 1) := by decide +kernel
theorem dX12_seated_469 : decode cX12_seated 469 = .ok (.iaload, 1) := by decide +kernel
theorem dX12_seated_470 : decode cX12_seated 470 = .ok (.aload_n 0, 1) := by decide +kernel
theorem dX12_seated_471 : decode cX12_seated 471 = .ok (.getfield 58, 3) := by decide +kernel
theorem dX12_seated_474 : decode cX12_seated 474 = .ok (.aload_n 0, 1) := by decide +kernel
theorem dX12_seated_475 : decode cX12_seated 475 = .ok (.getfield 7, 3) := by decide +kernel
theorem dX12_seated_478 : decode cX12_seated 478 = .ok (.iload 8, 2) := by decide +kernel
theorem dX12_seated_480 : decode cX12_seated 480 = .ok (.iaload, 1) := by decide +kernel
theorem dX12_seated_481 : decode cX12_seated 481 = .ok (.iaload, 1) := by decide +kernel
theorem dX12_seated_482 : decode cX12_seated 482 = .ok (.isub, 1) := by decide +kernel
theorem dX12_seated_483 : decode cX12_seated 483 = .ok (.iastore, 1) := by decide +kernel
theorem dX12_seated_484 : decode cX12_seated 484 = .ok (.aload_n 0, 1) := by decide +kernel
theorem dX12_seated_485 : decode cX12_seated 485 = .ok (.getfield 192, 3) := by decide +kernel
theorem dX12_seated_488 : decode cX12_seated 488 = .ok (.iload 8, 2) := by decide +kernel
theorem dX12_seated_490 : decode cX12_seated 490 = .ok (.iconst 0, 1) := by decide +kernel
theorem dX12_seated_491 : decode cX12_seated 491 = .ok (.iastore, 1) := by decide +kernel
theorem dX12_seated_492 : decode cX12_seated 492 = .ok (.aload_n 0, 1) := by decide +kernel
theorem dX12_seated_493 : decode cX12_seated 493 = .ok (.getfield 198, 3) := by decide +kernel
theorem dX12_seated_496 : decode cX12_seated 496 = .ok (.iconst 0, 1) := by decide +kernel
theorem dX12_seated_497 : decode cX12_seated 497 = .ok (.dup2, 1) := by decide +kernel
theorem dX12_seated_498 : decode cX12_seated 498 = .ok (.iaload, 1) := by decide +kernel
theorem dX12_seated_499 : decode cX12_seated 499 = .ok (.aload_n 0, 1) := by decide +kernel
theorem dX12_seated_500 : decode cX12_seated 500 = .ok (.getfield 58, 3) := by decide +kernel
theorem dX12_seated_503 : decode cX12_seated 503 = .ok (.aload_n 0, 1) := by decide +kernel
theorem dX12_seated_504 : decode cX12_seated 504 = .ok (.getfield 7, 3) := by decide +kernel
theorem dX12_seated_507 : decode cX12_seated 507 = .ok (.iload 8, 2) := by decide +kernel
theorem dX12_seated_509 : decode cX12_seated 509 = .ok (.iaload, 1) := by decide +kernel
theorem dX12_seated_510 : decode cX12_seated 510 = .ok (.iaload, 1) := by decide +kernel
theorem dX12_seated_511 : decode cX12_seated 511 = .ok (.iadd, 1) := by decide +kernel
theorem dX12_seated_512 : decode cX12_seated 512 = .ok (.iastore, 1) := by decide +kernel
theorem dX12_seated_513 : decode cX12_seated 513 = .ok (.iinc 8 (-1), 3) := by decide +kernel
theorem dX12_seated_516 : decode cX12_seated 516 = .ok (.goto (-79), 3) := by decide +kernel
theorem dX12_seated_519 : decode cX12_seated 519 = .ok (.iload 8, 2) := by decide +kernel
theorem dX12_seated_521 : decode cX12_seated 521 = .ok (.ifCond .lt 7, 3) := by decide +kernel
theorem dX12_seated_524 : decode cX12_seated 524 = .ok (.iconst 1, 1) := by decide +kernel
theorem dX12_seated_525 : decode cX12_seated 525 = .ok (.goto 4, 3) := by decide +kernel
theorem dX12_seated_528 : decode cX12_seated 528 = .ok (.iconst 0, 1) := by decide +kernel
theorem dX12_seated_529 : decode cX12_seated 529 = .ok (.istore 6, 2) := by decide +kernel
theorem dX12_seated_531 : decode cX12_seated 531 = .ok (.iload 6, 2) := by decide +kernel
theorem dX12_seated_533 : decode cX12_seated 533 = .ok (.ifCond .ne 6, 3) := by decide +kernel
theorem dX12_seated_536 : decode cX12_seated 536 = .ok (.goto (-176), 3) := by decide +kernel
theorem dX12_seated_539 : decode cX12_seated 539 = .ok (.aload_n 0, 1) := by decide +kernel
theorem dX12_seated_540 : decode cX12_seated 540 = .ok (.getfield 198, 3) := by decide +kernel
theorem dX12_seated_543 : decode cX12_seated 543 = .ok (.aload_n 0, 1) := by decide +kernel
theorem dX12_seated_544 : decode cX12_seated 544 = .ok (.getfield 192, 3) := by decide +kernel
theorem dX12_seated_547 : decode cX12_seated 547 = .ok (.iload 8, 2) := by decide +kernel
theorem dX12_seated_549 : decode cX12_seated 549 = .ok (.iaload, 1) := by decide +kernel
theorem dX12_seated_550 : decode cX12_seated 550 = .ok (.dup2, 1) := by decide +kernel
theorem dX12_seated_551 : decode cX12_seated 551 = .ok (.iaload, 1) := by decide +kernel
theorem dX12_seated_552 : decode cX12_seated 552 = .ok (.aload_n 0, 1) := by decide +kernel
theorem dX12_seated_553 : decode cX12_seated 553 = .ok (.getfield 58, 3) := by decide +kernel
theorem dX12_seated_556 : decode cX12_seated 556 = .ok (.aload_n 0, 1) := by decide +kernel
theorem dX12_seated_557 : decode cX12_seated 557 = .ok (.getfield 7, 3) := by decide +kernel
theorem dX12_seated_560 : decode cX12_seated 560 = .ok (.iload 8, 2) := by decide +kernel
theorem dX12_seated_562 : decode cX12_seated 562 = .ok (.iaload, 1) := by decide +kernel
theorem dX12_seated_563 : decode cX12_seated 563 = .ok (.iaload, 1) := by decide +kernel
theorem dX12_seated_564 : decode cX12_seated 564 = .ok (.isub, 1) := by decide +kernel
theorem dX12_seated_565 : decode cX12_seated 565 = .ok (.iastore, 1) := by decide +kernel
theorem dX12_seated_566 : decode cX12_seated 566 = .ok (.aload_n 0, 1) := by decide +kernel
theorem dX12_seated_567 : decode cX12_seated 567 = .ok (.getfield 192, 3) := by decide +kernel
theorem dX12_seated_570 : decode cX12_seated 570 = .ok (.iload 8, 2) := by decide +kernel
theorem dX12_seated_572 : decode cX12_seated 572 = .ok (.dup2, 1) := by decide +kernel
theorem dX12_seated_573 : decode cX12_seated 573 = .ok (.iaload, 1) := by decide +kernel
theorem dX12_seated_574 : decode cX12_seated 574 = .ok (.iconst 1, 1) := by decide +kernel
theorem dX12_seated_575 : decode cX12_seated 575 = .ok (.iadd, 1) := by decide +kernel
theorem dX12_seated_576 : decode cX12_seated 576 = .ok (.iastore, 1) := by decide +kernel
theorem dX12_seated_577 : decode cX12_seated 577 = .ok (.aload_n 0, 1) := by decide +kernel
theorem dX12_seated_578 : decode cX12_seated 578 = .ok (.getfield 198, 3) := by decide +kernel
theorem dX12_seated_581 : decode cX12_seated 581 = .ok (.aload_n 0, 1) := by decide +kernel
theorem dX12_seated_582 : decode cX12_seated 582 = .ok (.getfield 192, 3) := by decide +kernel
theorem dX12_seated_585 : decode cX12_seated 585 = .ok (.iload 8, 2) := by decide +kernel
theorem dX12_seated_587 : decode cX12_seated 587 = .ok (.iaload, 1) := by decide +kernel
theorem dX12_seated_588 : decode cX12_seated 588 = .ok (.dup2, 1) := by decide +kernel
theorem dX12_seated_589 : decode cX12_seated 589 = .ok (.iaload, 1) := by decide +kernel
theorem dX12_seated_590 : decode cX12_seated 590 = .ok (.aload_n 0, 1) := by decide +kernel
theorem dX12_seated_591 : decode cX12_seated 591 = .ok (.getfield 58, 3) := by decide +kernel
theorem dX12_seated_594 : decode cX12_seated 594 = .ok (.aload_n 0, 1) := by decide +kernel
theorem dX12_seated_595 : decode cX12_seated 595 = .ok (.getfield 7, 3) := by decide +kernel
theorem dX12_seated_598 : decode cX12_seated 598 = .ok (.iload 8, 2) := by decide +kernel
theorem dX12_seated_600 : decode cX12_seated 600 = .ok (.iaload, 1) := by decide +kernel
theorem dX12_seated_601 : decode cX12_seated 601 = .ok (.iaload, 1) := by decide +kernel
theorem dX12_seated_602 : decode cX12_seated 602 = .ok (.iadd, 1) := by decide +kernel
theorem dX12_seated_603 : decode cX12_seated 603 = .ok (.iastore, 1) := by decide +kernel
theorem dX12_seated_604 : decode cX12_seated 604 = .ok (.goto (-244), 3) := by decide +kernel
theorem dX12_seated_607 : decode cX12_seated 607 = .ok (.aload_n 0, 1) := by decide +kernel
theorem dX12_seated_608 : decode cX12_seated 608 = .ok (.iload_n 2, 1) := by decide +kernel
theorem dX12_seated_609 : decode cX12_seated 609 = .ok (.putfield 490, 3) := by decide +kernel
theorem dX12_seated_612 : decode cX12_seated 612 = .ok (.iload 5, 2) := by decide +kernel
theorem dX12_seated_614 : decode cX12_seated 614 = .ok (.ireturn, 1) := by decide +kernel
def w8 (k : Int) : Int := if k = 4 then 1 else if k = 3 then 8 else if k = 2 then 64 else if k = 1 then 512 else if k = 0 then 4096 else 32768
def V8 (g : Nat → Int32) : Int := 4096 * (g 0).toInt + 512 * (g 1).toInt + 64 * (g 2).toInt + 8 * (g 3).toInt + (g 4).toInt
theorem V8_b {g : Nat → Int32} (h : ∀ i, 0 ≤ (g i).toInt ∧ (g i).toInt ≤ 7) : 0 ≤ V8 g ∧ V8 g ≤ 32767 := by
  have h0 := h 0; have h1 := h 1; have h2 := h 2; have h3 := h 3; have h4 := h 4
  unfold V8; omega
theorem w8_c {k : Int} (h : 0 ≤ k ∧ k ≤ 4) : k = 0 ∨ k = 1 ∨ k = 2 ∨ k = 3 ∨ k = 4 := by omega
theorem w8_s {k : Int} (h : 0 ≤ k ∧ k ≤ 4) : w8 (k - 1) = 8 * w8 k := by
  rcases w8_c h with rfl | rfl | rfl | rfl | rfl <;> rfl
theorem w8_p {k : Int} (h : -1 ≤ k ∧ k ≤ 4) : 1 ≤ w8 k := by
  rcases (show k = -1 ∨ k = 0 ∨ k = 1 ∨ k = 2 ∨ k = 3 ∨ k = 4 from by omega) with rfl | rfl | rfl | rfl | rfl | rfl <;> decide
theorem V8_z {g g1 : Nat → Int32} {k : Int} {x : Int32} (h : ∀ i, 0 ≤ (g i).toInt ∧ (g i).toInt ≤ 7) (hk : 0 ≤ k ∧ k ≤ 4) (e : g1 = upd g k.toNat x) (hx : x.toInt = 0) : V8 g ≤ V8 g1 + 7 * w8 k := by
  subst e
  have h0 := h 0; have h1 := h 1; have h2 := h 2; have h3 := h 3; have h4 := h 4
  rcases w8_c hk with rfl | rfl | rfl | rfl | rfl
  · show _ ≤ 4096 * x.toInt + 512 * (g 1).toInt + 64 * (g 2).toInt + 8 * (g 3).toInt + (g 4).toInt + 7 * 4096; unfold V8; omega
  · show _ ≤ 4096 * (g 0).toInt + 512 * x.toInt + 64 * (g 2).toInt + 8 * (g 3).toInt + (g 4).toInt + 7 * 512; unfold V8; omega
  · show _ ≤ 4096 * (g 0).toInt + 512 * (g 1).toInt + 64 * x.toInt + 8 * (g 3).toInt + (g 4).toInt + 7 * 64; unfold V8; omega
  · show _ ≤ 4096 * (g 0).toInt + 512 * (g 1).toInt + 64 * (g 2).toInt + 8 * x.toInt + (g 4).toInt + 7 * 8; unfold V8; omega
  · show _ ≤ 4096 * (g 0).toInt + 512 * (g 1).toInt + 64 * (g 2).toInt + 8 * (g 3).toInt + x.toInt + 7 * 1; unfold V8; omega
theorem V8_i {g g1 : Nat → Int32} {k : Int} {x : Int32} (hk : 0 ≤ k ∧ k ≤ 4) (e : g1 = upd g k.toNat x) (hx : x.toInt = (g k.toNat).toInt + 1) : V8 g1 = V8 g + w8 k := by
  subst e
  rcases w8_c hk with rfl | rfl | rfl | rfl | rfl
  · have hx : x.toInt = (g 0).toInt + 1 := hx
    show 4096 * x.toInt + 512 * (g 1).toInt + 64 * (g 2).toInt + 8 * (g 3).toInt + (g 4).toInt = _ + 4096; unfold V8; omega
  · have hx : x.toInt = (g 1).toInt + 1 := hx
    show 4096 * (g 0).toInt + 512 * x.toInt + 64 * (g 2).toInt + 8 * (g 3).toInt + (g 4).toInt = _ + 512; unfold V8; omega
  · have hx : x.toInt = (g 2).toInt + 1 := hx
    show 4096 * (g 0).toInt + 512 * (g 1).toInt + 64 * x.toInt + 8 * (g 3).toInt + (g 4).toInt = _ + 64; unfold V8; omega
  · have hx : x.toInt = (g 3).toInt + 1 := hx
    show 4096 * (g 0).toInt + 512 * (g 1).toInt + 64 * (g 2).toInt + 8 * x.toInt + (g 4).toInt = _ + 8; unfold V8; omega
  · have hx : x.toInt = (g 4).toInt + 1 := hx
    show 4096 * (g 0).toInt + 512 * (g 1).toInt + 64 * (g 2).toInt + 8 * (g 3).toInt + x.toInt = _ + 1; unfold V8; omega
theorem pS_ad {g g1 : Nat → Int32} {k k1 : Int} {z : Int} {i : Nat} {x : Int32} (h : ∀ j : Nat, (j : Int) < k → (g j).toInt ≤ z) (e : g1 = upd g i x) (hi : (i : Int) = k) (hk : k1 = k + 1) (hx : x.toInt ≤ z) : ∀ j : Nat, (j : Int) < k1 → (g1 j).toInt ≤ z := by
  intro j hj
  rw [e]
  by_cases q : j = i
  · rw [q, up_eq]; exact hx
  · rw [up_ne q]; exact h j (by omega)
theorem pS_up {g g1 : Nat → Int32} {n : Int} {z : Int} {i : Nat} {x : Int32} (h : ∀ j : Nat, (j : Int) < n → (g j).toInt ≤ z) (e : g1 = upd g i x) (hx : x.toInt ≤ z) : ∀ j : Nat, (j : Int) < n → (g1 j).toInt ≤ z := by
  intro j hj
  rw [e]
  by_cases q : j = i
  · rw [q, up_eq]; exact hx
  · rw [up_ne q]; exact h j hj
set_option maxHeartbeats 4000000 in
set_option maxRecDepth 100000 in
theorem m_seated (l : Launch) (dC : Nat → ClassId) (dI : Nat → Nat → Nat) (sz h : Nat) (ad : Nat → Nat) (cA : Nat → ClassId) (hd : dM h ad) (fv : Nat → Int32) (wd : Int64) (ar : Nat → Nat → Int32) (hF_fv : rF fv) (hA_ar : rA ar) (mm : Int32) : Met l yX12_seated (.code yX12_seated cX12_seated 9 (some .int) :: lw_good) ({ frames := 5, cells := 0, slots := 0, locals := 106 }) (va_Pc [.ref h, .int mm] (prM dC dI h ad cA fv wd ar sz)) (va_Qi (fun (r : Int32) (u : mS) => rF u.1 ∧ rA u.2.2 ∧ fM [0, 2, 8, 95] fv u.1 ∧ fA [4, 90, 91, 92, 93, 94] ar u.2.2 ∧ True) (enM dC dI h ad cA) (aM h ad sz)) 0 0 (aM h ad sz) := by
  refine Met.ofW (cc := cX12_seated) (maxL := 9) (ret := (some .int)) (by decide) rfl ?_
  intro p e s m args below meth c s₁ B hml hv
  obtain ⟨rfl, hsz, hP, hK⟩ := hv
  have hx := B.exec
  have hb := B.bytes
  have hr := B.returns
  have hts := atoms_spec (ws := (.code yX12_seated cX12_seated 9 (some .int) :: lw_good)) B.pre
  have htg : ∀ w ∈ lw_good, w.before _ s = true := fun w hw => hts w (List.mem_cons_of_mem _ hw)
  have hown : s.vm.findClass RX12 = some m.cls := findClass_of_methodNamed B.named
  have hlocks := B.notSynchronized
  subst hsz
  have hS : va_S (aM h ad s.heap.size) s.heap s.heap [] := va_S.rf
  have hl := lv_entry ([.ref h, .int mm]) (n := 9) (Nat.le_of_ble_eq_true rfl)
  rw [lg_entry_eq]
  generalize (lg_sl ([.ref h, .int mm]) ++ List.replicate (9 - (lg_sl ([.ref h, .int mm])).length) Slot.unset).toArray = ls at hl ⊢
  have hl : lv_has ls 9 [(0, .ref h), (1, .int mm)] := hl
  refine lv_aload_n hx hb dX12_seated_0 rfl (lv_at hl 0 rfl) ?_
  refine lv_iconst (v := 0) hx hb dX12_seated_1 (by decide) ?_
  refine pM_0 hx hb htg hown hK hP hS hd dX12_seated_2 (fun H locs fv_1 efv_1 hP hS => ?_)
  have hF_fv_1 : rF fv_1 := rF_put hF_fv efv_1 (iv_any _)
  refine lv_aload_n hx hb dX12_seated_5 rfl (lv_at hl 0 rfl) ?_
  refine va_calli (va_runV (As := []) (rest := []) ⟨hx, hb, hml, hown, hts⟩ (m_take l dC dI H.size h ad cA hd fv_1 wd ar hF_fv_1 hA_ar) (cwV 0 hts (gV kw_8_5 kw_8_7 kw_p_60 kw_1_15 kw_8_8) rfl rfl rfl (by decide +kernel) ⟨Nat.le_of_ble_eq_true rfl, Nat.le_of_ble_eq_true rfl⟩) ⟨fun a U g mk q => ⟨q.1, q.2.1, q.2.2.1, va_K.moved (u := U) (U := U.calling g mk a) (Vm.Alike.refl U.vm) q.2.2.2⟩, va_recv hK hP (ci := 12) (q0 := 0) rfl rfl, fun U hU hW => ⟨rfl, by rw [hU], by rw [hU]; exact hP, va_K.moved hW.alike hK⟩⟩ rfl rfl hl.1 rfl (lv_room (Nat.le_of_ble_eq_true rfl)) dX12_seated_6 ⟨Nat.le_of_ble_eq_true rfl, Nat.le_of_ble_eq_true rfl⟩) hS (fun q _ h9 => aM_up hS q h9) (aM_up hS) (fun r_2 u t H1 locs ht _ hw hB _ hk1 hS => ?_)
  obtain ⟨fv_4, wd_5, ar_6⟩ := u
  obtain ⟨hF_fv_4, hA_ar_6, fr_7, fa_8, p_3, -⟩ := hw
  have hP : va_P (dC, dI) vwCl (wsM h ad cA fv_4 wd_5 ar_6) H1 := by have h9 := hB.1; rw [ht] at h9; exact h9
  have fr_7 : fM [2] fv_1 fv_4 := fr_7
  have fa_8 : fA [] ar ar_6 := fa_8
  generalize H1 = H at hP hS ⊢
  refine lv_istore_n (lv' := [(2, .int r_2), (0, .ref h), (1, .int mm)]) hx hb dX12_seated_9 rfl hl (by decide) rfl (fun ls hl => ?_)
  refine lv_iload_n hx hb dX12_seated_10 rfl (lv_at hl 0 rfl) ?_
  refine lv_iconst (v := 1) hx hb dX12_seated_11 (by decide) ?_
  refine lv_iconst (v := 5) hx hb dX12_seated_12 (by decide) ?_
  refine va_calli (va_runS (As := [.int r_2, .int 1, .int 5]) (rest := []) ⟨hx, hb, hml, hown, hts⟩ (m_isIn l H.size r_2 1 5) (va_cwS 3 hts (gS kw_7_218 kw_7_219 kw_1_15 kw_7_220) rfl rfl rfl (by decide +kernel) ⟨Nat.le_of_ble_eq_true rfl, Nat.le_of_ble_eq_true rfl⟩) ⟨fun a U g mk q => ⟨q.1, q.2⟩, fun U hU hW => ⟨rfl, congrArg Array.size hU⟩⟩ rfl rfl hl.1 rfl (lv_room (Nat.le_of_ble_eq_true rfl)) dX12_seated_13 ⟨Nat.le_of_ble_eq_true rfl, Nat.le_of_ble_eq_true rfl⟩) hS (fun q _ h9 => nM_up hS q h9) (nM_up hS) (fun r_9 u t H1 locs ht _ hw hB _ hk1 hS => ?_)
  obtain ⟨p_10, p_11, -⟩ := hw
  have hP := my_keepM hP hk1
  generalize H1 = H at hP hS ⊢
  rcases p_11 with ⟨rfl, p_11⟩ | ⟨rfl, p_11⟩
  · skip
    refine lv_if_eq (tgt := 37) hx hb dX12_seated_16 (by decide) (fun c_12 => ?_) (fun c_12 => ?_)
    · skip
      refine lv_iconst (v := (-1)) hx hb dX12_seated_37 (by decide) ?_
      exact W.iret (v := (-1)) hx hb hr (fun t ht hW => ⟨⟨(-1), (fv_4, wd_5, ar_6), rfl, ⟨hF_fv_4, hA_ar_6, (fM_call (fM_put (fM_rf [0, 2, 8, 95] _) efv_1 (by decide)) fr_7 (by decide)), (fA_call (fA_rf [4, 90, 91, 92, 93, 94] _) fa_8 (by decide)), trivial⟩, ⟨by rw [ht]; exact hP, va_K.moved hW.alike hK⟩⟩, hS.F ht⟩) hS.2.2 dX12_seated_38
    · skip
      exact absurd c_12 (by decide)
  · skip
    have i_13 : 1 ≤ r_2.toInt ∧ r_2.toInt ≤ 340 := iv_le2 (⟨by decide, by decide⟩ : (1 : Int) ≤ (1 : Int32).toInt ∧ (1 : Int32).toInt ≤ 1) p_3 (Int32.le_iff_toInt_le.mpr p_11.1)
    have i_14 : 1 ≤ r_2.toInt ∧ r_2.toInt ≤ 5 := iv_le1 i_13 (⟨by decide, by decide⟩ : (5 : Int) ≤ (5 : Int32).toInt ∧ (5 : Int32).toInt ≤ 5) (Int32.le_iff_toInt_le.mpr p_11.2)
    refine lv_if_eq (tgt := 37) hx hb dX12_seated_16 (by decide) (fun c_15 => ?_) (fun c_15 => ?_)
    · skip
      exact absurd c_15 (by decide)
    · skip
      refine lv_iload_n hx hb dX12_seated_19 rfl (lv_at hl 2 rfl) ?_
      refine lv_iconst (v := 0) hx hb dX12_seated_20 (by decide) ?_
      refine lv_sipush (v := 200) hx hb dX12_seated_21 (by decide) ?_
      refine va_calli (va_runS (As := [.int mm, .int 0, .int 200]) (rest := []) ⟨hx, hb, hml, hown, hts⟩ (m_isIn l H.size mm 0 200) (va_cwS 3 hts (gS kw_7_218 kw_7_219 kw_1_15 kw_7_220) rfl rfl rfl (by decide +kernel) ⟨Nat.le_of_ble_eq_true rfl, Nat.le_of_ble_eq_true rfl⟩) ⟨fun a U g mk q => ⟨q.1, q.2⟩, fun U hU hW => ⟨rfl, congrArg Array.size hU⟩⟩ rfl rfl hl.1 rfl (lv_room (Nat.le_of_ble_eq_true rfl)) dX12_seated_24 ⟨Nat.le_of_ble_eq_true rfl, Nat.le_of_ble_eq_true rfl⟩) hS (fun q _ h9 => nM_up hS q h9) (nM_up hS) (fun r_16 u t H1 locs ht _ hw hB _ hk1 hS => ?_)
      obtain ⟨p_17, p_18, -⟩ := hw
      have hP := my_keepM hP hk1
      generalize H1 = H at hP hS ⊢
      rcases p_18 with ⟨rfl, p_18⟩ | ⟨rfl, p_18⟩
      · skip
        refine lv_if_eq (tgt := 37) hx hb dX12_seated_27 (by decide) (fun c_19 => ?_) (fun c_19 => ?_)
        · skip
          refine lv_iconst (v := (-1)) hx hb dX12_seated_37 (by decide) ?_
          exact W.iret (v := (-1)) hx hb hr (fun t ht hW => ⟨⟨(-1), (fv_4, wd_5, ar_6), rfl, ⟨hF_fv_4, hA_ar_6, (fM_call (fM_put (fM_rf [0, 2, 8, 95] _) efv_1 (by decide)) fr_7 (by decide)), (fA_call (fA_rf [4, 90, 91, 92, 93, 94] _) fa_8 (by decide)), trivial⟩, ⟨by rw [ht]; exact hP, va_K.moved hW.alike hK⟩⟩, hS.F ht⟩) hS.2.2 dX12_seated_38
        · skip
          exact absurd c_19 (by decide)
      · skip
        have i_20 : 0 ≤ mm.toInt ∧ mm.toInt ≤ 2147483647 := iv_le2 (⟨by decide, by decide⟩ : (0 : Int) ≤ (0 : Int32).toInt ∧ (0 : Int32).toInt ≤ 0) (iv_any mm) (Int32.le_iff_toInt_le.mpr p_18.1)
        have i_21 : 0 ≤ mm.toInt ∧ mm.toInt ≤ 200 := iv_le1 i_20 (⟨by decide, by decide⟩ : (200 : Int) ≤ (200 : Int32).toInt ∧ (200 : Int32).toInt ≤ 200) (Int32.le_iff_toInt_le.mpr p_18.2)
        refine lv_if_eq (tgt := 37) hx hb dX12_seated_27 (by decide) (fun c_22 => ?_) (fun c_22 => ?_)
        · skip
          exact absurd c_22 (by decide)
        · skip
          refine lv_aload_n hx hb dX12_seated_30 rfl (lv_at hl 1 rfl) ?_
          refine gM_33 hx hb htg hown hK hP dX12_seated_31 ?_
          refine my_ti (y := fv 33) ((fr_7 33 rfl).trans ((congrFun efv_1 33))) ?_
          have i_23 : 0 ≤ (fv 33).toInt ∧ (fv 33).toInt ≤ 8 := hF_fv 33
          refine lv_if_ne (tgt := 39) hx hb dX12_seated_34 (by decide) (fun c_24 => ?_) (fun c_24 => ?_)
          · skip
            have i_25 : 1 ≤ (fv 33).toInt ∧ (fv 33).toInt ≤ 8 := iv_nel i_23 (by decide) c_24
            have k_26 : ¬ (fv 33).toInt = 0 := fun q => c_24 (Int32.toInt_inj.mp q)
            refine lv_iconst (v := 0) hx hb dX12_seated_39 (by decide) ?_
            refine lv_istore_n (lv' := [(3, .int 0), (2, .int r_2), (0, .ref h), (1, .int mm)]) hx hb dX12_seated_40 rfl hl (by decide) rfl (fun ls hl => ?_)
            refine lv_iconst (v := 0) hx hb dX12_seated_41 (by decide) ?_
            refine lv_istore (lv' := [(4, .int 0), (3, .int 0), (2, .int r_2), (0, .ref h), (1, .int mm)]) hx hb dX12_seated_42 hl (by decide) rfl (fun ls hl => ?_)
            refine my_cut (P := fun R9 a9 Q9 => ∀ (n_35 : Nat) (x_27 : Int32) (x_28 : Int32) (fv_29 : Nat → Int32) (ar_31 : Nat → Nat → Int32) (wd_33 : Int64) (H : Heap) (locs : List Loc) (ls : Array Slot), 5 - x_28.toInt < (n_35 : Int) → (0 ≤ x_28.toInt ∧ x_28.toInt ≤ 5) → rF fv_29 → fM [] fv_4 fv_29 → rA ar_31 → fA [] ar_6 ar_31 → (∀ j : Nat, (j : Int) < x_28.toInt → (ar 1 j).toInt ≤ 19) → va_P (dC, dI) vwCl (wsM h ad cA fv_29 wd_33 ar_31) H → va_S (aM h ad s.heap.size) s.heap H locs → lv_has ls 9 [(0, .ref h), (1, .int mm), (2, .int r_2), (3, .int x_27), (4, .int x_28)] → W p l e R9 s m a9 below meth c H locs 0 0 Q9 (F0 m 44 ls [])) ?_ (fun hj_37 => ?_)
            · intro n_35
              induction n_35 with
              | zero => intro x_27 x_28 fv_29 ar_31 wd_33 H locs ls fu_36 i_x_28 hF_fv_29 fr_30 hA_ar_31 fa_32 q_34; exfalso; omega
              | succ n_35 ih_35 =>
                intro x_27 x_28 fv_29 ar_31 wd_33 H locs ls fu_36 i_x_28 hF_fv_29 fr_30 hA_ar_31 fa_32 q_34 hP hS hl
                refine lv_iload hx hb dX12_seated_44 (lv_at hl 4 rfl) ?_
                refine lv_iload_n hx hb dX12_seated_46 rfl (lv_at hl 2 rfl) ?_
                refine lv_icmp_ge (tgt := 99) hx hb dX12_seated_47 (by decide) (fun c_38 => ?_) (fun c_38 => ?_)
                · skip
                  have i_39 : 1 ≤ x_28.toInt ∧ x_28.toInt ≤ 5 := iv_le2 i_14 i_x_28 c_38
                  have k_40 := Int32.le_iff_toInt_le.mp c_38
                  have hT : ∀ j : Nat, (j : Int) < r_2.toInt → (ar 1 j).toInt ≤ 19 := fun j hj => q_34 j (by omega)
                  have z33 : (1 : Int) ≤ (fv 33).toInt ∧ (fv 33).toInt ≤ 8 := i_25
                  refine lv_iconst (v := 0) hx hb dX12_seated_99 (by decide) ?_
                  refine lv_istore (lv' := [(4, .int 0), (0, .ref h), (1, .int mm), (2, .int r_2), (3, .int x_27)]) hx hb dX12_seated_100 hl (by decide) rfl (fun ls hl => ?_)
                  refine my_cut (P := fun R9 a9 Q9 => ∀ (n_47 : Nat) (x_41 : Int32) (fv_42 : Nat → Int32) (ar_44 : Nat → Nat → Int32) (wd_46 : Int64) (H : Heap) (locs : List Loc) (ls : Array Slot), 40 - x_41.toInt < (n_47 : Int) → (0 ≤ x_41.toInt ∧ x_41.toInt ≤ 40) → rF fv_42 → fM [8] fv_29 fv_42 → rA ar_44 → fA [4, 90] ar_31 ar_44 → va_P (dC, dI) vwCl (wsM h ad cA fv_42 wd_46 ar_44) H → va_S (aM h ad s.heap.size) s.heap H locs → lv_has ls 9 [(0, .ref h), (1, .int mm), (2, .int r_2), (4, .int x_41)] → W p l e R9 s m a9 below meth c H locs 0 0 Q9 (F0 m 102 ls [])) ?_ (fun hj_49 => ?_)
                  · intro n_47
                    induction n_47 with
                    | zero => intro x_41 fv_42 ar_44 wd_46 H locs ls fu_48 i_x_41 hF_fv_42 fr_43 hA_ar_44 fa_45; exfalso; omega
                    | succ n_47 ih_47 =>
                      intro x_41 fv_42 ar_44 wd_46 H locs ls fu_48 i_x_41 hF_fv_42 fr_43 hA_ar_44 fa_45 hP hS hl
                      refine lv_iload hx hb dX12_seated_102 (lv_at hl 3 rfl) ?_
                      refine lv_aload_n hx hb dX12_seated_104 rfl (lv_at hl 0 rfl) ?_
                      refine gM_32 hx hb htg hown hK hP dX12_seated_105 ?_
                      refine my_ti (y := fv 32) ((fr_43 32 rfl).trans ((fr_30 32 rfl).trans ((fr_7 32 rfl).trans ((congrFun efv_1 32))))) ?_
                      have i_50 : 0 ≤ (fv 32).toInt ∧ (fv 32).toInt ≤ 40 := hF_fv 32
                      refine lv_icmp_ge (tgt := 204) hx hb dX12_seated_108 (by decide) (fun c_51 => ?_) (fun c_51 => ?_)
                      · skip
                        have k_52 := Int32.le_iff_toInt_le.mp c_51
                        refine lv_iconst (v := 0) hx hb dX12_seated_204 (by decide) ?_
                        refine lv_istore (lv' := [(4, .int 0), (0, .ref h), (1, .int mm), (2, .int r_2)]) hx hb dX12_seated_205 hl (by decide) rfl (fun ls hl => ?_)
                        refine my_cut (P := fun R9 a9 Q9 => ∀ (n_118 : Nat) (x_115 : Int32) (ar_116 : Nat → Nat → Int32) (H : Heap) (locs : List Loc) (ls : Array Slot), 256 - x_115.toInt < (n_118 : Int) → (0 ≤ x_115.toInt ∧ x_115.toInt ≤ 256) → rA ar_116 → fA [94] ar_44 ar_116 → va_P (dC, dI) vwCl (wsM h ad cA fv_42 wd_46 ar_116) H → va_S (aM h ad s.heap.size) s.heap H locs → lv_has ls 9 [(0, .ref h), (2, .int r_2), (4, .int x_115)] → W p l e R9 s m a9 below meth c H locs 0 0 Q9 (F0 m 207 ls [])) ?_ (fun hj_120 => ?_)
                        · intro n_118
                          induction n_118 with
                          | zero => intro x_115 ar_116 H locs ls fu_119 i_x_115 hA_ar_116 fa_117; exfalso; omega
                          | succ n_118 ih_118 =>
                            intro x_115 ar_116 H locs ls fu_119 i_x_115 hA_ar_116 fa_117 hP hS hl
                            refine lv_iload hx hb dX12_seated_207 (lv_at hl 2 rfl) ?_
                            refine lv_iconst (v := 1) hx hb dX12_seated_209 (by decide) ?_
                            refine lv_aload_n hx hb dX12_seated_210 rfl (lv_at hl 0 rfl) ?_
                            refine gM_33 hx hb htg hown hK hP dX12_seated_211 ?_
                            refine my_ti (y := fv 33) ((fr_43 33 rfl).trans ((fr_30 33 rfl).trans ((fr_7 33 rfl).trans ((congrFun efv_1 33))))) ?_
                            refine lv_ishl hx hb dX12_seated_214 ?_
                            refine lv_topi (fun v_121 ev_121 => ?_)
                            have i_122 : 1 ≤ v_121.toInt ∧ v_121.toInt ≤ 256 := iv_shl (k := 8) ev_121 (iv_w i_25 (by decide) (by decide)) rfl (by decide)
                            refine lv_icmp_ge (tgt := 276) hx hb dX12_seated_215 (by decide) (fun c_123 => ?_) (fun c_123 => ?_)
                            · skip
                              have i_124 : 1 ≤ x_115.toInt ∧ x_115.toInt ≤ 256 := iv_le2 i_122 i_x_115 c_123
                              have k_125 := Int32.le_iff_toInt_le.mp c_123
                              refine lv_iconst (v := 0) hx hb dX12_seated_276 (by decide) ?_
                              refine lv_istore (lv' := [(4, .int 0), (0, .ref h), (2, .int r_2)]) hx hb dX12_seated_277 hl (by decide) rfl (fun ls hl => ?_)
                              refine my_cut (P := fun R9 a9 Q9 => ∀ (n_163 : Nat) (x_160 : Int32) (ar_161 : Nat → Nat → Int32) (H : Heap) (locs : List Loc) (ls : Array Slot), 8 - x_160.toInt < (n_163 : Int) → (0 ≤ x_160.toInt ∧ x_160.toInt ≤ 8) → rA ar_161 → fA [93] ar_116 ar_161 → va_P (dC, dI) vwCl (wsM h ad cA fv_42 wd_46 ar_161) H → va_S (aM h ad s.heap.size) s.heap H locs → lv_has ls 9 [(0, .ref h), (2, .int r_2), (4, .int x_160)] → W p l e R9 s m a9 below meth c H locs 0 0 Q9 (F0 m 279 ls [])) ?_ (fun hj_165 => ?_)
                              · intro n_163
                                induction n_163 with
                                | zero => intro x_160 ar_161 H locs ls fu_164 i_x_160 hA_ar_161 fa_162; exfalso; omega
                                | succ n_163 ih_163 =>
                                  intro x_160 ar_161 H locs ls fu_164 i_x_160 hA_ar_161 fa_162 hP hS hl
                                  refine lv_iload hx hb dX12_seated_279 (lv_at hl 2 rfl) ?_
                                  refine lv_aload_n hx hb dX12_seated_281 rfl (lv_at hl 0 rfl) ?_
                                  refine gM_33 hx hb htg hown hK hP dX12_seated_282 ?_
                                  refine my_ti (y := fv 33) ((fr_43 33 rfl).trans ((fr_30 33 rfl).trans ((fr_7 33 rfl).trans ((congrFun efv_1 33))))) ?_
                                  refine lv_icmp_ge (tgt := 302) hx hb dX12_seated_285 (by decide) (fun c_166 => ?_) (fun c_166 => ?_)
                                  · skip
                                    have i_167 : 1 ≤ x_160.toInt ∧ x_160.toInt ≤ 8 := iv_le2 i_25 i_x_160 c_166
                                    have k_168 := Int32.le_iff_toInt_le.mp c_166
                                    refine lv_iconst (v := 0) hx hb dX12_seated_302 (by decide) ?_
                                    refine lv_istore (lv' := [(4, .int 0), (0, .ref h), (2, .int r_2)]) hx hb dX12_seated_303 hl (by decide) rfl (fun ls hl => ?_)
                                    refine my_cut (P := fun R9 a9 Q9 => ∀ (n_179 : Nat) (x_175 : Int32) (ar_176 : Nat → Nat → Int32) (H : Heap) (locs : List Loc) (ls : Array Slot), 5 - x_175.toInt < (n_179 : Int) → (0 ≤ x_175.toInt ∧ x_175.toInt ≤ 5) → rA ar_176 → fA [91, 93] ar_161 ar_176 → (∀ j : Nat, (j : Int) < x_175.toInt → (ar_176 91 j).toInt ≤ (fv 33).toInt - 1) → va_P (dC, dI) vwCl (wsM h ad cA fv_42 wd_46 ar_176) H → va_S (aM h ad s.heap.size) s.heap H locs → lv_has ls 9 [(0, .ref h), (2, .int r_2), (4, .int x_175)] → W p l e R9 s m a9 below meth c H locs 0 0 Q9 (F0 m 305 ls [])) ?_ (fun hj_181 => ?_)
                                    · intro n_179
                                      induction n_179 with
                                      | zero => intro x_175 ar_176 H locs ls fu_180 i_x_175 hA_ar_176 fa_177 q_178; exfalso; omega
                                      | succ n_179 ih_179 =>
                                        intro x_175 ar_176 H locs ls fu_180 i_x_175 hA_ar_176 fa_177 q_178 hP hS hl
                                        refine lv_iload hx hb dX12_seated_305 (lv_at hl 2 rfl) ?_
                                        refine lv_iload_n hx hb dX12_seated_307 rfl (lv_at hl 1 rfl) ?_
                                        refine lv_icmp_ge (tgt := 346) hx hb dX12_seated_308 (by decide) (fun c_182 => ?_) (fun c_182 => ?_)
                                        · skip
                                          have i_183 : 1 ≤ x_175.toInt ∧ x_175.toInt ≤ 5 := iv_le2 i_14 i_x_175 c_182
                                          have k_184 := Int32.le_iff_toInt_le.mp c_182
                                          refine lv_aload_n hx hb dX12_seated_346 rfl (lv_at hl 0 rfl) ?_
                                          refine gM_93 hx hb htg hown hK hP dX12_seated_347 ?_
                                          refine lv_iconst (v := 0) hx hb dX12_seated_350 (by decide) ?_
                                          refine lM_93 hx hb hK hP (iv_in (⟨by decide, by decide⟩ : (0 : Int) ≤ (0 : Int32).toInt ∧ (0 : Int32).toInt ≤ 0) (by decide) (by decide)) dX12_seated_351 (fun v_198 ev_198 => ?_)
                                          refine lv_istore (lv' := [(4, .int v_198), (0, .ref h), (2, .int r_2)]) hx hb dX12_seated_352 hl (by decide) rfl (fun ls hl => ?_)
                                          refine lv_iconst (v := (-1)) hx hb dX12_seated_354 (by decide) ?_
                                          refine lv_istore (lv' := [(5, .int (-1)), (4, .int v_198), (0, .ref h), (2, .int r_2)]) hx hb dX12_seated_355 hl (by decide) rfl (fun ls hl => ?_)
                                          refine lv_iconst (v := 1) hx hb dX12_seated_357 (by decide) ?_
                                          have v8b := V8_b (fun i => hA_ar_176 91 i)
                                          refine lv_istore (lv' := [(6, .int 1), (5, .int (-1)), (4, .int v_198), (0, .ref h), (2, .int r_2)]) hx hb dX12_seated_358 hl (by decide) rfl (fun ls hl => ?_)
                                          refine my_cut (P := fun R9 a9 Q9 => ∀ (n_208 : Nat) (x_199 : Int32) (x_200 : Int32) (fv_201 : Nat → Int32) (ar_203 : Nat → Nat → Int32) (wd_205 : Int64) (H : Heap) (locs : List Loc) (ls : Array Slot), 32767 - V8 (ar_203 91) < (n_208 : Int) → ((-1) ≤ x_199.toInt ∧ x_199.toInt ≤ 2147483647) → (1 ≤ x_200.toInt ∧ x_200.toInt ≤ 1) → rF fv_201 → fM [] fv_42 fv_201 → rA ar_203 → fA [91, 92, 93] ar_176 ar_203 → (∀ j : Nat, (j : Int) < r_2.toInt → (ar_203 91 j).toInt ≤ (fv 33).toInt - 1) → (0 ≤ V8 (ar_203 91) ∧ V8 (ar_203 91) ≤ 32767) → va_P (dC, dI) vwCl (wsM h ad cA fv_201 wd_205 ar_203) H → va_S (aM h ad s.heap.size) s.heap H locs → lv_has ls 9 [(0, .ref h), (2, .int r_2), (4, .int v_198), (5, .int x_199), (6, .int x_200)] → W p l e R9 s m a9 below meth c H locs 0 0 Q9 (F0 m 360 ls [])) ?_ (fun hj_210 => ?_)
                                          · intro n_208
                                            induction n_208 with
                                            | zero => intro x_199 x_200 fv_201 ar_203 wd_205 H locs ls fu_209 i_x_199 i_x_200 hF_fv_201 fr_202 hA_ar_203 fa_204 q_206 q_207; exfalso; omega
                                            | succ n_208 ih_208 =>
                                              intro x_199 x_200 fv_201 ar_203 wd_205 H locs ls fu_209 i_x_199 i_x_200 hF_fv_201 fr_202 hA_ar_203 fa_204 q_206 q_207 hP hS hl
                                              refine lv_iload hx hb dX12_seated_360 (lv_at hl 4 rfl) ?_
                                              refine lv_if_eq (tgt := 607) hx hb dX12_seated_362 (by decide) (fun c_211 => ?_) (fun c_211 => ?_)
                                              · skip
                                                exact absurd True.intro (by have h7 := i_x_200; have h8 := (⟨by decide, by decide⟩ : (0 : Int) ≤ (0 : Int32).toInt ∧ (0 : Int32).toInt ≤ 0); have h9 := congrArg Int32.toInt c_211; exfalso; omega)
                                              · skip
                                                have k_212 : ¬ x_200.toInt = 0 := fun q => c_211 (Int32.toInt_inj.mp q)
                                                refine lv_aload_n hx hb dX12_seated_365 rfl (lv_at hl 0 rfl) ?_
                                                refine va_calli (va_runV (As := []) (rest := []) ⟨hx, hb, hml, hown, hts⟩ (m_mostSeated l dC dI H.size h ad cA hd fv_201 wd_205 ar_203 hF_fv_201 hA_ar_203) (cwV 0 hts (gV kw_9_24 kw_9_26 kw_p_101 kw_1_15 kw_9_27) rfl rfl rfl (by decide +kernel) ⟨Nat.le_of_ble_eq_true rfl, Nat.le_of_ble_eq_true rfl⟩) ⟨fun a U g mk q => ⟨q.1, q.2.1, q.2.2.1, va_K.moved (u := U) (U := U.calling g mk a) (Vm.Alike.refl U.vm) q.2.2.2⟩, va_recv hK hP (ci := 12) (q0 := 0) rfl rfl, fun U hU hW => ⟨rfl, by rw [hU], by rw [hU]; exact hP, va_K.moved hW.alike hK⟩⟩ rfl rfl hl.1 rfl (lv_room (Nat.le_of_ble_eq_true rfl)) dX12_seated_366 ⟨Nat.le_of_ble_eq_true rfl, Nat.le_of_ble_eq_true rfl⟩) hS (fun q _ h9 => aM_up hS q h9) (aM_up hS) (fun r_213 u t H1 locs ht _ hw hB _ hk1 hS => ?_)
                                                obtain ⟨fv_214, wd_215, ar_216⟩ := u
                                                obtain ⟨hF_fv_214, hA_ar_216, fr_217, fa_218, -⟩ := hw
                                                have hP : va_P (dC, dI) vwCl (wsM h ad cA fv_214 wd_215 ar_216) H1 := by have h9 := hB.1; rw [ht] at h9; exact h9
                                                have fr_217 : fM [] fv_201 fv_214 := fr_217
                                                have fa_218 : fA [] ar_203 ar_216 := fa_218
                                                generalize H1 = H at hP hS ⊢
                                                refine lv_istore (lv' := [(7, .int r_213), (0, .ref h), (2, .int r_2), (4, .int v_198), (5, .int x_199), (6, .int x_200)]) hx hb dX12_seated_369 hl (by decide) rfl (fun ls hl => ?_)
                                                refine lv_iload hx hb dX12_seated_371 (lv_at hl 0 rfl) ?_
                                                refine lv_iload hx hb dX12_seated_373 (lv_at hl 4 rfl) ?_
                                                refine my_cut (P := fun R9 a9 Q9 => ∀ (x_242 : Int32) (ar_243 : Nat → Nat → Int32) (H : Heap) (locs : List Loc) (ls : Array Slot), ((-1) ≤ x_242.toInt ∧ x_242.toInt ≤ 2147483647) → rA ar_243 → fA [92] ar_216 ar_243 → va_P (dC, dI) vwCl (wsM h ad cA fv_214 wd_215 ar_243) H → va_S (aM h ad s.heap.size) s.heap H locs → lv_has ls 9 [(0, .ref h), (2, .int r_2), (4, .int v_198), (5, .int x_242)] → W p l e R9 s m a9 below meth c H locs 0 0 Q9 (F0 m 411 ls [])) ?_ (fun hj_245 => ?_)
                                                · intro x_242 ar_243 H locs ls i_x_242 hA_ar_243 fa_244 hP hS hl
                                                  refine lv_iload hx hb dX12_seated_411 (lv_at hl 3 rfl) ?_
                                                  refine lv_aload_n hx hb dX12_seated_413 rfl (lv_at hl 0 rfl) ?_
                                                  refine gM_94 hx hb htg hown hK hP dX12_seated_414 ?_
                                                  refine lv_iconst (v := 0) hx hb dX12_seated_417 (by decide) ?_
                                                  refine lM_94 hx hb hK hP (iv_in (⟨by decide, by decide⟩ : (0 : Int) ≤ (0 : Int32).toInt ∧ (0 : Int32).toInt ≤ 0) (by decide) (by decide)) dX12_seated_418 (fun v_246 ev_246 => ?_)
                                                  refine lv_icmp_eq (tgt := 607) hx hb dX12_seated_419 (by decide) (fun c_247 => ?_) (fun c_247 => ?_)
                                                  · skip
                                                    have i_248 : (-1) ≤ v_246.toInt ∧ v_246.toInt ≤ 2147483647 := iv_eq1 i_x_242 c_247.symm
                                                    have k_249 := congrArg Int32.toInt c_247
                                                    refine lv_aload_n hx hb dX12_seated_607 rfl (lv_at hl 0 rfl) ?_
                                                    refine lv_iload_n hx hb dX12_seated_608 rfl (lv_at hl 1 rfl) ?_
                                                    refine pM_95 hx hb htg hown hK hP hS hd dX12_seated_609 (fun H locs fv_250 efv_250 hP hS => ?_)
                                                    have hF_fv_250 : rF fv_250 := rF_put hF_fv_214 efv_250 (iv_w i_14 (by decide) (by decide))
                                                    refine lv_iload hx hb dX12_seated_612 (lv_at hl 3 rfl) ?_
                                                    exact W.iret (v := x_242) hx hb hr (fun t ht hW => ⟨⟨x_242, (fv_250, wd_215, ar_243), rfl, ⟨hF_fv_250, hA_ar_243, (fM_put (fM_call (fM_call (fM_call (fM_call (fM_call (fM_put (fM_rf [0, 2, 8, 95] _) efv_1 (by decide)) fr_7 (by decide)) fr_30 (by decide)) fr_43 (by decide)) fr_202 (by decide)) fr_217 (by decide)) efv_250 (by decide)), (fA_call (fA_call (fA_call (fA_call (fA_call (fA_call (fA_call (fA_call (fA_call (fA_rf [4, 90, 91, 92, 93, 94] _) fa_8 (by decide)) fa_32 (by decide)) fa_45 (by decide)) fa_117 (by decide)) fa_162 (by decide)) fa_177 (by decide)) fa_204 (by decide)) fa_218 (by decide)) fa_244 (by decide)), trivial⟩, ⟨by rw [ht]; exact hP, va_K.moved hW.alike hK⟩⟩, hS.F ht⟩) hS.2.2 dX12_seated_614
                                                  · skip
                                                    have k_251 : ¬ x_242.toInt = v_246.toInt := fun q => c_247 (Int32.toInt_inj.mp q)
                                                    refine lv_iload hx hb dX12_seated_422 (lv_at hl 3 rfl) ?_
                                                    refine lv_iload hx hb dX12_seated_424 (lv_at hl 2 rfl) ?_
                                                    refine lv_icmp_ne (tgt := 432) hx hb dX12_seated_426 (by decide) (fun c_252 => ?_) (fun c_252 => ?_)
                                                    · skip
                                                      have k_253 : ¬ x_242.toInt = v_198.toInt := fun q => c_252 (Int32.toInt_inj.mp q)
                                                      refine lv_iload_n hx hb dX12_seated_432 rfl (lv_at hl 1 rfl) ?_
                                                      refine lv_iconst (v := 1) hx hb dX12_seated_433 (by decide) ?_
                                                      refine lv_isub hx hb dX12_seated_434 ?_
                                                      refine lv_topi (fun v_254 ev_254 => ?_)
                                                      have t_255 : v_254.toInt = r_2.toInt - 1 ∧ 0 ≤ v_254.toInt ∧ v_254.toInt ≤ 4 := iv_subc ev_254 i_14 (by decide) (by decide) (by decide)
                                                      refine lv_istore (lv' := [(8, .int v_254), (0, .ref h), (2, .int r_2), (4, .int v_198), (5, .int x_242)]) hx hb dX12_seated_435 hl (by decide) rfl (fun ls hl => ?_)
                                                      refine my_cut (P := fun R9 a9 Q9 => ∀ (n_263 : Nat) (x_257 : Int32) (ar_258 : Nat → Nat → Int32) (H : Heap) (locs : List Loc) (ls : Array Slot), x_257.toInt - (-1) < (n_263 : Int) → ((-1) ≤ x_257.toInt ∧ x_257.toInt ≤ 4) → rA ar_258 → fA [91, 93] ar_243 ar_258 → (x_257.toInt < r_2.toInt) → (V8 (ar_203 91) ≤ V8 (ar_258 91) + w8 x_257.toInt - 1) → (∀ j : Nat, (j : Int) < r_2.toInt → (ar_258 91 j).toInt ≤ (fv 33).toInt - 1) → va_P (dC, dI) vwCl (wsM h ad cA fv_214 wd_215 ar_258) H → va_S (aM h ad s.heap.size) s.heap H locs → lv_has ls 9 [(0, .ref h), (2, .int r_2), (4, .int v_198), (5, .int x_242), (8, .int x_257)] → W p l e R9 s m a9 below meth c H locs 0 0 Q9 (F0 m 437 ls [])) ?_ (fun hj_265 => ?_)
                                                      · intro n_263
                                                        induction n_263 with
                                                        | zero => intro x_257 ar_258 H locs ls fu_264 i_x_257 hA_ar_258 fa_259 q_260 q_261 q_262; exfalso; omega
                                                        | succ n_263 ih_263 =>
                                                          intro x_257 ar_258 H locs ls fu_264 i_x_257 hA_ar_258 fa_259 q_260 q_261 q_262 hP hS hl
                                                          have w_266 := w8_p (k := x_257.toInt) (by omega)
                                                          refine lv_iload hx hb dX12_seated_437 (lv_at hl 4 rfl) ?_
                                                          refine my_cut (P := fun R9 a9 Q9 => ∀  (H : Heap) (locs : List Loc) (ls : Array Slot), (x_257.toInt < 0 ∨ (ar_258 91 x_257.toInt.toNat).toInt ≤ (fv 33).toInt - 2) → va_P (dC, dI) vwCl (wsM h ad cA fv_214 wd_215 ar_258) H → va_S (aM h ad s.heap.size) s.heap H locs → lv_has ls 9 [(0, .ref h), (2, .int r_2), (4, .int v_198), (5, .int x_242), (8, .int x_257)] → W p l e R9 s m a9 below meth c H locs 0 0 Q9 (F0 m 519 ls [])) ?_ (fun hj_295 => ?_)
                                                          · intro  H locs ls q_294 hP hS hl
                                                            refine lv_iload hx hb dX12_seated_519 (lv_at hl 4 rfl) ?_
                                                            refine my_cut (P := fun R9 a9 Q9 => ∀ (x_299 : Int32) (H : Heap) (locs : List Loc) (ls : Array Slot), (0 ≤ x_299.toInt ∧ x_299.toInt ≤ 1) → (x_299.toInt = 0 ∨ 0 ≤ x_257.toInt) → va_P (dC, dI) vwCl (wsM h ad cA fv_214 wd_215 ar_258) H → va_S (aM h ad s.heap.size) s.heap H locs → lv_has ls 9 [(0, .ref h), (2, .int r_2), (4, .int v_198), (5, .int x_242), (8, .int x_257)] → W p l e R9 s m a9 below meth c H locs 0 0 Q9 (F0 m 529 ls [.int x_299])) ?_ (fun hj_301 => ?_)
                                                            · intro x_299 H locs ls i_x_299 q_300 hP hS hl
                                                              refine lv_istore (lv' := [(6, .int x_299), (0, .ref h), (2, .int r_2), (4, .int v_198), (5, .int x_242), (8, .int x_257)]) hx hb dX12_seated_529 hl (by decide) rfl (fun ls hl => ?_)
                                                              refine lv_iload hx hb dX12_seated_531 (lv_at hl 0 rfl) ?_
                                                              refine lv_if_ne (tgt := 539) hx hb dX12_seated_533 (by decide) (fun c_302 => ?_) (fun c_302 => ?_)
                                                              · skip
                                                                have i_303 : 1 ≤ x_299.toInt ∧ x_299.toInt ≤ 1 := iv_nel i_x_299 (by decide) c_302
                                                                have k_304 : ¬ x_299.toInt = 0 := fun q => c_302 (Int32.toInt_inj.mp q)
                                                                have i_305 : 0 ≤ x_257.toInt ∧ x_257.toInt ≤ 4 := (by omega)
                                                                refine lv_aload_n hx hb dX12_seated_539 rfl (lv_at hl 1 rfl) ?_
                                                                refine gM_93 hx hb htg hown hK hP dX12_seated_540 ?_
                                                                refine lv_aload_n hx hb dX12_seated_543 rfl (lv_at hl 1 rfl) ?_
                                                                refine gM_91 hx hb htg hown hK hP dX12_seated_544 ?_
                                                                refine lv_iload hx hb dX12_seated_547 (lv_at hl 5 rfl) ?_
                                                                refine lM_91 hx hb hK hP (iv_in i_305 (by decide) (by decide)) dX12_seated_549 (fun v_306 ev_306 => ?_)
                                                                have i_307 : 0 ≤ v_306.toInt ∧ v_306.toInt ≤ 7 := ev_306 ▸ hA_ar_258 91 _
                                                                have i_308 : 0 ≤ v_306.toInt ∧ v_306.toInt ≤ 6 := ⟨(i_307).1, by have h8 : (ar_258 91 x_257.toInt.toNat).toInt = v_306.toInt := congrArg Int32.toInt ev_306.symm; omega⟩
                                                                have h549 : v_306.toInt ≤ (fv 33).toInt - 2 := by have h8 : (ar_258 91 x_257.toInt.toNat).toInt = v_306.toInt := congrArg Int32.toInt ev_306.symm; omega
                                                                refine lv_dup2_11 hx hb dX12_seated_550 rfl rfl ?_
                                                                refine lM_93 hx hb hK hP (iv_in i_308 (by decide) (by decide)) dX12_seated_551 (fun v_309 ev_309 => ?_)
                                                                refine lv_aload_n hx hb dX12_seated_552 rfl (lv_at hl 1 rfl) ?_
                                                                refine gM_22 hx hb htg hown hK hP dX12_seated_553 ?_
                                                                refine lv_aload_n hx hb dX12_seated_556 rfl (lv_at hl 1 rfl) ?_
                                                                refine gM_1 hx hb htg hown hK hP dX12_seated_557 ?_
                                                                refine lv_iload hx hb dX12_seated_560 (lv_at hl 5 rfl) ?_
                                                                refine lM_1 hx hb hK hP (iv_in i_305 (by decide) (by decide)) dX12_seated_562 (fun v_310 ev_310 => ?_)
                                                                have i_311 : 0 ≤ v_310.toInt ∧ v_310.toInt ≤ 255 := ev_310 ▸ hA_ar_258 1 _
                                                                have i_312 : 0 ≤ v_310.toInt ∧ v_310.toInt ≤ 19 := ⟨(i_311).1, by rw [ev_310, ((fA_call (fA_call (fA_call (fA_call (fA_call (fA_call (fA_call (fA_call (fA_call (fA_call (fA_rf [4, 90, 91, 92, 93, 94] _) fa_8 (by decide)) fa_32 (by decide)) fa_45 (by decide)) fa_117 (by decide)) fa_162 (by decide)) fa_177 (by decide)) fa_204 (by decide)) fa_218 (by decide)) fa_244 (by decide)) fa_259 (by decide)) 1 rfl)]; exact hT _ (by show ((x_257.toInt.toNat : Nat) : Int) < _; omega)⟩
                                                                refine lM_22 hx hb hK hP (iv_in i_312 (by decide) (by decide)) dX12_seated_563 (fun v_313 ev_313 => ?_)
                                                                refine lv_isub hx hb dX12_seated_564 ?_
                                                                refine lv_topi (fun v_314 ev_314 => ?_)
                                                                refine sM_93 hx hb hK hP hS hd (iv_in i_308 (by decide) (by decide)) dX12_seated_565 (fun H locs ar_315 ear_315 hP hS => ?_)
                                                                have hA_ar_315 : rA ar_315 := rA_put hA_ar_258 ear_315 (iv_any _)
                                                                refine lv_aload_n hx hb dX12_seated_566 rfl (lv_at hl 1 rfl) ?_
                                                                refine gM_91 hx hb htg hown hK hP dX12_seated_567 ?_
                                                                refine lv_iload hx hb dX12_seated_570 (lv_at hl 5 rfl) ?_
                                                                refine lv_dup2_11 hx hb dX12_seated_572 rfl rfl ?_
                                                                refine lM_91 hx hb hK hP (iv_in i_305 (by decide) (by decide)) dX12_seated_573 (fun v_316 ev_316 => ?_)
                                                                obtain rfl : v_306 = v_316 := ev_306.trans ((congrFun ((fA_put (fA_rf [93] _) ear_315 (by decide)) 91 rfl) _).symm.trans ev_316.symm)
                                                                refine lv_iconst (v := 1) hx hb dX12_seated_574 (by decide) ?_
                                                                refine lv_iadd hx hb dX12_seated_575 ?_
                                                                refine lv_topi (fun v_317 ev_317 => ?_)
                                                                have t_318 : v_317.toInt = v_306.toInt + 1 ∧ 1 ≤ v_317.toInt ∧ v_317.toInt ≤ 7 := iv_addc ev_317 i_308 (by decide) (by decide) (by decide)
                                                                refine sM_91 hx hb hK hP hS hd (iv_in i_305 (by decide) (by decide)) dX12_seated_576 (fun H locs ar_320 ear_320 hP hS => ?_)
                                                                have hA_ar_320 : rA ar_320 := rA_put hA_ar_315 ear_320 (iv_w t_318.2 (by decide) (by decide))
                                                                refine lv_aload_n hx hb dX12_seated_577 rfl (lv_at hl 1 rfl) ?_
                                                                refine gM_93 hx hb htg hown hK hP dX12_seated_578 ?_
                                                                refine lv_aload_n hx hb dX12_seated_581 rfl (lv_at hl 1 rfl) ?_
                                                                refine gM_91 hx hb htg hown hK hP dX12_seated_582 ?_
                                                                refine lv_iload hx hb dX12_seated_585 (lv_at hl 5 rfl) ?_
                                                                refine lM_91 hx hb hK hP (iv_in i_305 (by decide) (by decide)) dX12_seated_587 (fun v_321 ev_321 => ?_)
                                                                have i_322 : 0 ≤ v_321.toInt ∧ v_321.toInt ≤ 7 := ev_321 ▸ hA_ar_320 91 _
                                                                refine lv_dup2_11 hx hb dX12_seated_588 rfl rfl ?_
                                                                refine lM_93 hx hb hK hP (iv_in i_322 (by decide) (by decide)) dX12_seated_589 (fun v_323 ev_323 => ?_)
                                                                refine lv_aload_n hx hb dX12_seated_590 rfl (lv_at hl 1 rfl) ?_
                                                                refine gM_22 hx hb htg hown hK hP dX12_seated_591 ?_
                                                                refine lv_aload_n hx hb dX12_seated_594 rfl (lv_at hl 1 rfl) ?_
                                                                refine gM_1 hx hb htg hown hK hP dX12_seated_595 ?_
                                                                refine lv_iload hx hb dX12_seated_598 (lv_at hl 5 rfl) ?_
                                                                refine lM_1 hx hb hK hP (iv_in i_305 (by decide) (by decide)) dX12_seated_600 (fun v_324 ev_324 => ?_)
                                                                obtain rfl : v_310 = v_324 := ev_310.trans ((congrFun ((fA_put (fA_put (fA_rf [91, 93] _) ear_315 (by decide)) ear_320 (by decide)) 1 rfl) _).symm.trans ev_324.symm)
                                                                refine lM_22 hx hb hK hP (iv_in i_312 (by decide) (by decide)) dX12_seated_601 (fun v_325 ev_325 => ?_)
                                                                obtain rfl : v_313 = v_325 := ev_313.trans ((congrFun ((fA_put (fA_put (fA_rf [91, 93] _) ear_315 (by decide)) ear_320 (by decide)) 22 rfl) _).symm.trans ev_325.symm)
                                                                refine lv_iadd hx hb dX12_seated_602 ?_
                                                                refine lv_topi (fun v_326 ev_326 => ?_)
                                                                refine sM_93 hx hb hK hP hS hd (iv_in i_322 (by decide) (by decide)) dX12_seated_603 (fun H locs ar_327 ear_327 hP hS => ?_)
                                                                have hA_ar_327 : rA ar_327 := rA_put hA_ar_320 ear_327 (iv_any _)
                                                                have g91 : ar_327 91 = upd (ar_258 91) (x_257.toInt.toNat) v_317 := by rw [((fA_put (fA_rf [93] _) ear_327 (by decide)) 91 rfl), ear_320]; show upd (ar_315 91) (x_257.toInt.toNat) _ = _; rw [((fA_put (fA_rf [93] _) ear_315 (by decide)) 91 rfl)]
                                                                have y9 := V8_i (k := x_257.toInt) (x := v_317) (by omega) g91 (by show _ = (ar_258 91 (Int32.toNatClampNeg x_257)).toInt + 1; rw [← ev_306]; omega)
                                                                have pz9 := pS_up (x := v_317) q_262 g91 (by omega)
                                                                refine lv_goto (tgt := 360) hx hb dX12_seated_604 (by decide) ?_
                                                                exact ih_208 x_242 x_299 fv_214 ar_327 wd_215 _ _ ls (by omega) i_x_242 i_303 hF_fv_214 (fM_call (fM_call (fM_rf [] _) fr_202 (by decide)) fr_217 (by decide)) hA_ar_327 (fA_put (fA_put (fA_put (fA_call (fA_call (fA_call (fA_call (fA_rf [91, 92, 93] _) fa_204 (by decide)) fa_218 (by decide)) fa_244 (by decide)) fa_259 (by decide)) ear_315 (by decide)) ear_320 (by decide)) ear_327 (by decide)) pz9 (V8_b (fun i => hA_ar_327 91 i)) hP hS (lv_sub hl [1, 2, 3, 4, 0] rfl)
                                                              · skip
                                                                have i_328 : 0 ≤ x_299.toInt ∧ x_299.toInt ≤ 0 := iv_eq1 (⟨by decide, by decide⟩ : (0 : Int) ≤ (0 : Int32).toInt ∧ (0 : Int32).toInt ≤ 0) c_302
                                                                refine lv_goto (tgt := 360) hx hb dX12_seated_536 (by decide) ?_
                                                                refine lv_iload hx hb dX12_seated_360 (lv_at hl 0 rfl) ?_
                                                                refine lv_if_eq (tgt := 607) hx hb dX12_seated_362 (by decide) (fun c_330 => ?_) (fun c_330 => ?_)
                                                                · skip
                                                                  refine lv_aload_n hx hb dX12_seated_607 rfl (lv_at hl 1 rfl) ?_
                                                                  refine lv_iload_n hx hb dX12_seated_608 rfl (lv_at hl 2 rfl) ?_
                                                                  refine pM_95 hx hb htg hown hK hP hS hd dX12_seated_609 (fun H locs fv_332 efv_332 hP hS => ?_)
                                                                  have hF_fv_332 : rF fv_332 := rF_put hF_fv_214 efv_332 (iv_w i_14 (by decide) (by decide))
                                                                  refine lv_iload hx hb dX12_seated_612 (lv_at hl 4 rfl) ?_
                                                                  exact W.iret (v := x_242) hx hb hr (fun t ht hW => ⟨⟨x_242, (fv_332, wd_215, ar_258), rfl, ⟨hF_fv_332, hA_ar_258, (fM_put (fM_call (fM_call (fM_call (fM_call (fM_call (fM_put (fM_rf [0, 2, 8, 95] _) efv_1 (by decide)) fr_7 (by decide)) fr_30 (by decide)) fr_43 (by decide)) fr_202 (by decide)) fr_217 (by decide)) efv_332 (by decide)), (fA_call (fA_call (fA_call (fA_call (fA_call (fA_call (fA_call (fA_call (fA_call (fA_call (fA_rf [4, 90, 91, 92, 93, 94] _) fa_8 (by decide)) fa_32 (by decide)) fa_45 (by decide)) fa_117 (by decide)) fa_162 (by decide)) fa_177 (by decide)) fa_204 (by decide)) fa_218 (by decide)) fa_244 (by decide)) fa_259 (by decide)), trivial⟩, ⟨by rw [ht]; exact hP, va_K.moved hW.alike hK⟩⟩, hS.F ht⟩) hS.2.2 dX12_seated_614
                                                                · skip
                                                                  exact absurd True.intro (by have h7 := i_328; have h8 := (⟨by decide, by decide⟩ : (0 : Int) ≤ (0 : Int32).toInt ∧ (0 : Int32).toInt ≤ 0); have h9 : ¬ _ := fun q => c_330 (Int32.toInt_inj.mp q); exfalso; omega)
                                                            · skip
                                                              refine lv_if_lt (tgt := 528) hx hb dX12_seated_521 (by decide) (fun c_296 => ?_) (fun c_296 => ?_)
                                                              · skip
                                                                have i_297 : (-1) ≤ x_257.toInt ∧ x_257.toInt ≤ (-1) := iv_lt1 i_x_257 (⟨by decide, by decide⟩ : (0 : Int) ≤ (0 : Int32).toInt ∧ (0 : Int32).toInt ≤ 0) c_296
                                                                refine lv_iconst (v := 0) hx hb dX12_seated_528 (by decide) ?_
                                                                have z_333 : (0 : Int32).toInt = 0 := by decide
                                                                exact hj_301 0 _ _ ls (iv_w (⟨by decide, by decide⟩ : (0 : Int) ≤ (0 : Int32).toInt ∧ (0 : Int32).toInt ≤ 0) (by decide) (by decide)) (by omega) hP hS (lv_sub hl [0, 1, 2, 3, 4] rfl)
                                                              · skip
                                                                have i_298 : 0 ≤ x_257.toInt ∧ x_257.toInt ≤ 4 := iv_le2 (⟨by decide, by decide⟩ : (0 : Int) ≤ (0 : Int32).toInt ∧ (0 : Int32).toInt ≤ 0) i_x_257 (Int32.not_lt.mp c_296)
                                                                refine lv_iconst (v := 1) hx hb dX12_seated_524 (by decide) ?_
                                                                refine lv_goto (tgt := 529) hx hb dX12_seated_525 (by decide) ?_
                                                                have z_334 : (1 : Int32).toInt = 1 := by decide
                                                                exact hj_301 1 _ _ ls (iv_w (⟨by decide, by decide⟩ : (1 : Int) ≤ (1 : Int32).toInt ∧ (1 : Int32).toInt ≤ 1) (by decide) (by decide)) (by omega) hP hS (lv_sub hl [0, 1, 2, 3, 4] rfl)
                                                          · skip
                                                            refine lv_if_lt (tgt := 519) hx hb dX12_seated_439 (by decide) (fun c_267 => ?_) (fun c_267 => ?_)
                                                            · skip
                                                              have i_268 : (-1) ≤ x_257.toInt ∧ x_257.toInt ≤ (-1) := iv_lt1 i_x_257 (⟨by decide, by decide⟩ : (0 : Int) ≤ (0 : Int32).toInt ∧ (0 : Int32).toInt ≤ 0) c_267
                                                              exact hj_295  _ _ ls (by omega) hP hS (lv_sub hl [0, 1, 2, 3, 4] rfl)
                                                            · skip
                                                              have i_269 : 0 ≤ x_257.toInt ∧ x_257.toInt ≤ 4 := iv_le2 (⟨by decide, by decide⟩ : (0 : Int) ≤ (0 : Int32).toInt ∧ (0 : Int32).toInt ≤ 0) i_x_257 (Int32.not_lt.mp c_267)
                                                              refine lv_aload_n hx hb dX12_seated_442 rfl (lv_at hl 0 rfl) ?_
                                                              refine gM_91 hx hb htg hown hK hP dX12_seated_443 ?_
                                                              refine lv_iload hx hb dX12_seated_446 (lv_at hl 4 rfl) ?_
                                                              refine lM_91 hx hb hK hP (iv_in i_269 (by decide) (by decide)) dX12_seated_448 (fun v_270 ev_270 => ?_)
                                                              have i_271 : 0 ≤ v_270.toInt ∧ v_270.toInt ≤ 7 := ev_270 ▸ hA_ar_258 91 _
                                                              refine lv_aload_n hx hb dX12_seated_449 rfl (lv_at hl 0 rfl) ?_
                                                              refine gM_33 hx hb htg hown hK hP dX12_seated_450 ?_
                                                              refine my_ti (y := fv 33) ((fr_217 33 rfl).trans ((fr_202 33 rfl).trans ((fr_43 33 rfl).trans ((fr_30 33 rfl).trans ((fr_7 33 rfl).trans ((congrFun efv_1 33))))))) ?_
                                                              refine lv_iconst (v := 1) hx hb dX12_seated_453 (by decide) ?_
                                                              refine lv_isub hx hb dX12_seated_454 ?_
                                                              refine lv_topi (fun v_272 ev_272 => ?_)
                                                              have t_273 : v_272.toInt = (fv 33).toInt - 1 ∧ 0 ≤ v_272.toInt ∧ v_272.toInt ≤ 7 := iv_subc ev_272 i_25 (by decide) (by decide) (by decide)
                                                              refine lv_icmp_ne (tgt := 519) hx hb dX12_seated_455 (by decide) (fun c_275 => ?_) (fun c_275 => ?_)
                                                              · skip
                                                                have k_276 : ¬ v_270.toInt = v_272.toInt := fun q => c_275 (Int32.toInt_inj.mp q)
                                                                exact hj_295  _ _ ls (Or.inr (by show (ar_258 91 (Int32.toNatClampNeg x_257)).toInt ≤ _; rw [← ev_270]; have h9 := q_262 (x_257.toInt.toNat) (by omega); have h8 : (ar_258 91 x_257.toInt.toNat).toInt = v_270.toInt := congrArg Int32.toInt ev_270.symm; omega)) hP hS (lv_sub hl [0, 1, 2, 3, 4] rfl)
                                                              · skip
                                                                have k_277 := congrArg Int32.toInt c_275
                                                                refine lv_aload_n hx hb dX12_seated_458 rfl (lv_at hl 0 rfl) ?_
                                                                refine gM_93 hx hb htg hown hK hP dX12_seated_459 ?_
                                                                refine lv_aload_n hx hb dX12_seated_462 rfl (lv_at hl 0 rfl) ?_
                                                                refine gM_33 hx hb htg hown hK hP dX12_seated_463 ?_
                                                                refine my_ti (y := fv 33) ((fr_217 33 rfl).trans ((fr_202 33 rfl).trans ((fr_43 33 rfl).trans ((fr_30 33 rfl).trans ((fr_7 33 rfl).trans ((congrFun efv_1 33))))))) ?_
                                                                refine lv_iconst (v := 1) hx hb dX12_seated_466 (by decide) ?_
                                                                refine lv_isub hx hb dX12_seated_467 ?_
                                                                refine my_ti (y := v_272) ev_272.symm ?_
                                                                refine lv_dup2_11 hx hb dX12_seated_468 rfl rfl ?_
                                                                refine lM_93 hx hb hK hP (iv_in t_273.2 (by decide) (by decide)) dX12_seated_469 (fun v_278 ev_278 => ?_)
                                                                refine lv_aload_n hx hb dX12_seated_470 rfl (lv_at hl 0 rfl) ?_
                                                                refine gM_22 hx hb htg hown hK hP dX12_seated_471 ?_
                                                                refine lv_aload_n hx hb dX12_seated_474 rfl (lv_at hl 0 rfl) ?_
                                                                refine gM_1 hx hb htg hown hK hP dX12_seated_475 ?_
                                                                refine lv_iload hx hb dX12_seated_478 (lv_at hl 4 rfl) ?_
                                                                refine lM_1 hx hb hK hP (iv_in i_269 (by decide) (by decide)) dX12_seated_480 (fun v_279 ev_279 => ?_)
                                                                have i_280 : 0 ≤ v_279.toInt ∧ v_279.toInt ≤ 255 := ev_279 ▸ hA_ar_258 1 _
                                                                have i_281 : 0 ≤ v_279.toInt ∧ v_279.toInt ≤ 19 := ⟨(i_280).1, by rw [ev_279, ((fA_call (fA_call (fA_call (fA_call (fA_call (fA_call (fA_call (fA_call (fA_call (fA_call (fA_rf [4, 90, 91, 92, 93, 94] _) fa_8 (by decide)) fa_32 (by decide)) fa_45 (by decide)) fa_117 (by decide)) fa_162 (by decide)) fa_177 (by decide)) fa_204 (by decide)) fa_218 (by decide)) fa_244 (by decide)) fa_259 (by decide)) 1 rfl)]; exact hT _ (by show ((x_257.toInt.toNat : Nat) : Int) < _; omega)⟩
                                                                refine lM_22 hx hb hK hP (iv_in i_281 (by decide) (by decide)) dX12_seated_481 (fun v_282 ev_282 => ?_)
                                                                refine lv_isub hx hb dX12_seated_482 ?_
                                                                refine lv_topi (fun v_283 ev_283 => ?_)
                                                                refine sM_93 hx hb hK hP hS hd (iv_in t_273.2 (by decide) (by decide)) dX12_seated_483 (fun H locs ar_284 ear_284 hP hS => ?_)
                                                                have hA_ar_284 : rA ar_284 := rA_put hA_ar_258 ear_284 (iv_any _)
                                                                refine lv_aload_n hx hb dX12_seated_484 rfl (lv_at hl 0 rfl) ?_
                                                                refine gM_91 hx hb htg hown hK hP dX12_seated_485 ?_
                                                                refine lv_iload hx hb dX12_seated_488 (lv_at hl 4 rfl) ?_
                                                                refine lv_iconst (v := 0) hx hb dX12_seated_490 (by decide) ?_
                                                                refine sM_91 hx hb hK hP hS hd (iv_in i_269 (by decide) (by decide)) dX12_seated_491 (fun H locs ar_285 ear_285 hP hS => ?_)
                                                                have hA_ar_285 : rA ar_285 := rA_put hA_ar_284 ear_285 (iv_w (⟨by decide, by decide⟩ : (0 : Int) ≤ (0 : Int32).toInt ∧ (0 : Int32).toInt ≤ 0) (by decide) (by decide))
                                                                refine lv_aload_n hx hb dX12_seated_492 rfl (lv_at hl 0 rfl) ?_
                                                                refine gM_93 hx hb htg hown hK hP dX12_seated_493 ?_
                                                                refine lv_iconst (v := 0) hx hb dX12_seated_496 (by decide) ?_
                                                                refine lv_dup2_11 hx hb dX12_seated_497 rfl rfl ?_
                                                                refine lM_93 hx hb hK hP (iv_in (⟨by decide, by decide⟩ : (0 : Int) ≤ (0 : Int32).toInt ∧ (0 : Int32).toInt ≤ 0) (by decide) (by decide)) dX12_seated_498 (fun v_286 ev_286 => ?_)
                                                                refine lv_aload_n hx hb dX12_seated_499 rfl (lv_at hl 0 rfl) ?_
                                                                refine gM_22 hx hb htg hown hK hP dX12_seated_500 ?_
                                                                refine lv_aload_n hx hb dX12_seated_503 rfl (lv_at hl 0 rfl) ?_
                                                                refine gM_1 hx hb htg hown hK hP dX12_seated_504 ?_
                                                                refine lv_iload hx hb dX12_seated_507 (lv_at hl 4 rfl) ?_
                                                                refine lM_1 hx hb hK hP (iv_in i_269 (by decide) (by decide)) dX12_seated_509 (fun v_287 ev_287 => ?_)
                                                                obtain rfl : v_279 = v_287 := ev_279.trans ((congrFun ((fA_put (fA_put (fA_rf [91, 93] _) ear_284 (by decide)) ear_285 (by decide)) 1 rfl) _).symm.trans ev_287.symm)
                                                                refine lM_22 hx hb hK hP (iv_in i_281 (by decide) (by decide)) dX12_seated_510 (fun v_288 ev_288 => ?_)
                                                                obtain rfl : v_282 = v_288 := ev_282.trans ((congrFun ((fA_put (fA_put (fA_rf [91, 93] _) ear_284 (by decide)) ear_285 (by decide)) 22 rfl) _).symm.trans ev_288.symm)
                                                                refine lv_iadd hx hb dX12_seated_511 ?_
                                                                refine lv_topi (fun v_289 ev_289 => ?_)
                                                                refine sM_93 hx hb hK hP hS hd (iv_in (⟨by decide, by decide⟩ : (0 : Int) ≤ (0 : Int32).toInt ∧ (0 : Int32).toInt ≤ 0) (by decide) (by decide)) dX12_seated_512 (fun H locs ar_290 ear_290 hP hS => ?_)
                                                                have hA_ar_290 : rA ar_290 := rA_put hA_ar_285 ear_290 (iv_any _)
                                                                have g91 : ar_290 91 = upd (ar_258 91) (x_257.toInt.toNat) (0 : Int32) := by rw [((fA_put (fA_rf [93] _) ear_290 (by decide)) 91 rfl), ear_285]; show upd (ar_284 91) (x_257.toInt.toNat) _ = _; rw [((fA_put (fA_rf [93] _) ear_284 (by decide)) 91 rfl)]
                                                                have y9 := V8_z (k := x_257.toInt) (x := (0 : Int32)) (fun i => hA_ar_258 91 i) (by omega) g91 (by decide)
                                                                have y8 := w8_s (k := x_257.toInt) (by omega)
                                                                have pz8 := pS_up (x := (0 : Int32)) q_262 g91 (by show (0 : Int) ≤ _; omega)
                                                                obtain ⟨v_291, ev_291⟩ : ∃ z : Int32, z = x_257 + (-1) := ⟨_, rfl⟩
                                                                refine lv_iinc (v := v_291) (lv' := [(8, .int v_291), (0, .ref h), (2, .int r_2), (4, .int v_198), (5, .int x_242)]) hx hb dX12_seated_513 hl (k := 4) rfl (by rw [ev_291]; rfl) (by decide) rfl (fun ls hl => ?_)
                                                                have t_292 : v_291.toInt = x_257.toInt + (-1) ∧ (-1) ≤ v_291.toInt ∧ v_291.toInt ≤ 3 := iv_addc ev_291 i_269 (by decide) (by decide) (by decide)
                                                                have y7 : w8 v_291.toInt = w8 (x_257.toInt - 1) := by congr 1; omega
                                                                refine lv_goto (tgt := 437) hx hb dX12_seated_516 (by decide) ?_
                                                                exact ih_263 v_291 ar_290 _ _ ls (by omega) (iv_w t_292.2 (by decide) (by decide)) hA_ar_290 (fA_put (fA_put (fA_put (fA_call (fA_rf [91, 93] _) fa_259 (by decide)) ear_284 (by decide)) ear_285 (by decide)) ear_290 (by decide)) (by omega) (by omega) pz8 hP hS (lv_sub hl [1, 2, 3, 4, 0] rfl)
                                                      · skip
                                                        exact hj_265 6 v_254 ar_243 _ _ ls (by omega) (iv_w t_255.2 (by decide) (by decide)) hA_ar_243 (fA_rf [91, 93] _) (by omega) (by have h9 := w8_p (k := v_254.toInt) (by omega); rw [((fA_call (fA_call (fA_rf [92] _) fa_218 (by decide)) fa_244 (by decide)) 91 rfl)]; omega) (fun j hj => by rw [((fA_call (fA_call (fA_rf [92] _) fa_218 (by decide)) fa_244 (by decide)) 91 rfl)]; exact q_206 j hj) hP hS (lv_sub hl [1, 2, 3, 4, 0] rfl)
                                                    · skip
                                                      have i_335 : (-1) ≤ v_198.toInt ∧ v_198.toInt ≤ 2147483647 := iv_eq1 i_x_242 c_252.symm
                                                      have k_336 := congrArg Int32.toInt c_252
                                                      refine lv_goto (tgt := 607) hx hb dX12_seated_429 (by decide) ?_
                                                      refine lv_aload_n hx hb dX12_seated_607 rfl (lv_at hl 0 rfl) ?_
                                                      refine lv_iload_n hx hb dX12_seated_608 rfl (lv_at hl 1 rfl) ?_
                                                      refine pM_95 hx hb htg hown hK hP hS hd dX12_seated_609 (fun H locs fv_337 efv_337 hP hS => ?_)
                                                      have hF_fv_337 : rF fv_337 := rF_put hF_fv_214 efv_337 (iv_w i_14 (by decide) (by decide))
                                                      refine lv_iload hx hb dX12_seated_612 (lv_at hl 3 rfl) ?_
                                                      exact W.iret (v := x_242) hx hb hr (fun t ht hW => ⟨⟨x_242, (fv_337, wd_215, ar_243), rfl, ⟨hF_fv_337, hA_ar_243, (fM_put (fM_call (fM_call (fM_call (fM_call (fM_call (fM_put (fM_rf [0, 2, 8, 95] _) efv_1 (by decide)) fr_7 (by decide)) fr_30 (by decide)) fr_43 (by decide)) fr_202 (by decide)) fr_217 (by decide)) efv_337 (by decide)), (fA_call (fA_call (fA_call (fA_call (fA_call (fA_call (fA_call (fA_call (fA_call (fA_rf [4, 90, 91, 92, 93, 94] _) fa_8 (by decide)) fa_32 (by decide)) fa_45 (by decide)) fa_117 (by decide)) fa_162 (by decide)) fa_177 (by decide)) fa_204 (by decide)) fa_218 (by decide)) fa_244 (by decide)), trivial⟩, ⟨by rw [ht]; exact hP, va_K.moved hW.alike hK⟩⟩, hS.F ht⟩) hS.2.2 dX12_seated_614
                                                · skip
                                                  refine lv_icmp_le (tgt := 411) hx hb dX12_seated_375 (by decide) (fun c_219 => ?_) (fun c_219 => ?_)
                                                  · skip
                                                    have k_220 := Int32.le_iff_toInt_le.mp c_219
                                                    exact hj_245 x_199 ar_216 _ _ ls i_x_199 hA_ar_216 (fA_rf [92] _) hP hS (lv_sub hl [1, 2, 3, 4] rfl)
                                                  · skip
                                                    have i_221 : (-1) ≤ x_199.toInt ∧ x_199.toInt ≤ 2147483646 := iv_lt1 i_x_199 (iv_any r_213) (Int32.not_le.mp c_219)
                                                    have i_222 : 0 ≤ r_213.toInt ∧ r_213.toInt ≤ 2147483647 := iv_lt2 i_x_199 (iv_any r_213) (Int32.not_le.mp c_219)
                                                    have k_223 := Int32.lt_iff_toInt_lt.mp (Int32.not_le.mp c_219)
                                                    refine lv_iload hx hb dX12_seated_378 (lv_at hl 0 rfl) ?_
                                                    refine lv_istore (lv' := [(5, .int r_213), (7, .int r_213), (0, .ref h), (2, .int r_2), (4, .int v_198), (6, .int x_200)]) hx hb dX12_seated_380 hl (by decide) rfl (fun ls hl => ?_)
                                                    refine lv_iconst (v := 0) hx hb dX12_seated_382 (by decide) ?_
                                                    refine lv_istore (lv' := [(8, .int 0), (5, .int r_213), (7, .int r_213), (0, .ref h), (2, .int r_2), (4, .int v_198), (6, .int x_200)]) hx hb dX12_seated_383 hl (by decide) rfl (fun ls hl => ?_)
                                                    refine my_cut (P := fun R9 a9 Q9 => ∀ (n_227 : Nat) (x_224 : Int32) (ar_225 : Nat → Nat → Int32) (H : Heap) (locs : List Loc) (ls : Array Slot), 5 - x_224.toInt < (n_227 : Int) → (0 ≤ x_224.toInt ∧ x_224.toInt ≤ 5) → rA ar_225 → fA [92] ar_216 ar_225 → va_P (dC, dI) vwCl (wsM h ad cA fv_214 wd_215 ar_225) H → va_S (aM h ad s.heap.size) s.heap H locs → lv_has ls 9 [(0, .ref h), (2, .int r_2), (4, .int v_198), (5, .int r_213), (8, .int x_224)] → W p l e R9 s m a9 below meth c H locs 0 0 Q9 (F0 m 385 ls [])) ?_ (fun hj_229 => ?_)
                                                    · intro n_227
                                                      induction n_227 with
                                                      | zero => intro x_224 ar_225 H locs ls fu_228 i_x_224 hA_ar_225 fa_226; exfalso; omega
                                                      | succ n_227 ih_227 =>
                                                        intro x_224 ar_225 H locs ls fu_228 i_x_224 hA_ar_225 fa_226 hP hS hl
                                                        refine lv_iload hx hb dX12_seated_385 (lv_at hl 4 rfl) ?_
                                                        refine lv_iload_n hx hb dX12_seated_387 rfl (lv_at hl 1 rfl) ?_
                                                        refine lv_icmp_ge (tgt := 411) hx hb dX12_seated_388 (by decide) (fun c_230 => ?_) (fun c_230 => ?_)
                                                        · skip
                                                          have i_231 : 1 ≤ x_224.toInt ∧ x_224.toInt ≤ 5 := iv_le2 i_14 i_x_224 c_230
                                                          have k_232 := Int32.le_iff_toInt_le.mp c_230
                                                          exact hj_245 r_213 ar_225 _ _ ls (iv_w i_222 (by decide) (by decide)) hA_ar_225 (fA_call (fA_rf [92] _) fa_226 (by decide)) hP hS (lv_sub hl [0, 1, 2, 3] rfl)
                                                        · skip
                                                          have i_233 : 0 ≤ x_224.toInt ∧ x_224.toInt ≤ 4 := iv_lt1 i_x_224 i_14 (Int32.not_le.mp c_230)
                                                          have k_234 := Int32.lt_iff_toInt_lt.mp (Int32.not_le.mp c_230)
                                                          refine lv_aload_n hx hb dX12_seated_391 rfl (lv_at hl 0 rfl) ?_
                                                          refine gM_92 hx hb htg hown hK hP dX12_seated_392 ?_
                                                          refine lv_iload hx hb dX12_seated_395 (lv_at hl 4 rfl) ?_
                                                          refine lv_aload_n hx hb dX12_seated_397 rfl (lv_at hl 0 rfl) ?_
                                                          refine gM_91 hx hb htg hown hK hP dX12_seated_398 ?_
                                                          refine lv_iload hx hb dX12_seated_401 (lv_at hl 4 rfl) ?_
                                                          refine lM_91 hx hb hK hP (iv_in i_233 (by decide) (by decide)) dX12_seated_403 (fun v_235 ev_235 => ?_)
                                                          have i_236 : 0 ≤ v_235.toInt ∧ v_235.toInt ≤ 7 := ev_235 ▸ hA_ar_225 91 _
                                                          refine sM_92 hx hb hK hP hS hd (iv_in i_233 (by decide) (by decide)) dX12_seated_404 (fun H locs ar_237 ear_237 hP hS => ?_)
                                                          have hA_ar_237 : rA ar_237 := rA_put hA_ar_225 ear_237 (iv_any _)
                                                          obtain ⟨v_238, ev_238⟩ : ∃ z : Int32, z = x_224 + 1 := ⟨_, rfl⟩
                                                          refine lv_iinc (v := v_238) (lv' := [(8, .int v_238), (0, .ref h), (2, .int r_2), (4, .int v_198), (5, .int r_213)]) hx hb dX12_seated_405 hl (k := 4) rfl (by rw [ev_238]; rfl) (by decide) rfl (fun ls hl => ?_)
                                                          have t_239 : v_238.toInt = x_224.toInt + 1 ∧ 1 ≤ v_238.toInt ∧ v_238.toInt ≤ 5 := iv_addc ev_238 i_233 (by decide) (by decide) (by decide)
                                                          refine lv_goto (tgt := 385) hx hb dX12_seated_408 (by decide) ?_
                                                          exact ih_227 v_238 ar_237 _ _ ls (by omega) (iv_w t_239.2 (by decide) (by decide)) hA_ar_237 (fA_put (fA_call (fA_rf [92] _) fa_226 (by decide)) ear_237 (by decide)) hP hS (lv_sub hl [1, 2, 3, 4, 0] rfl)
                                                    · skip
                                                      have z_241 : (0 : Int32).toInt = 0 := by decide
                                                      exact hj_229 6 0 ar_216 _ _ ls (by first | decide | omega) (iv_w (⟨by decide, by decide⟩ : (0 : Int) ≤ (0 : Int32).toInt ∧ (0 : Int32).toInt ≤ 0) (by decide) (by decide)) hA_ar_216 (fA_rf [92] _) hP hS (lv_sub hl [3, 4, 5, 1, 0] rfl)
                                          · skip
                                            have z_338 : ((-1) : Int32).toInt = (-1) := by decide
                                            have z_339 : (1 : Int32).toInt = 1 := by decide
                                            exact hj_210 32768 (-1) 1 fv_42 ar_176 wd_46 _ _ ls (by first | decide | omega) (iv_w (⟨by decide, by decide⟩ : (-1 : Int) ≤ ((-1) : Int32).toInt ∧ ((-1) : Int32).toInt ≤ -1) (by decide) (by decide)) (⟨by decide, by decide⟩ : (1 : Int) ≤ (1 : Int32).toInt ∧ (1 : Int32).toInt ≤ 1) hF_fv_42 (fM_rf [] _) hA_ar_176 (fA_rf [91, 92, 93] _) (fun j hj => by exact q_178 j (by omega)) (V8_b (fun i => hA_ar_176 91 i)) hP hS (lv_sub hl [3, 4, 2, 1, 0] rfl)
                                        · skip
                                          have i_185 : 0 ≤ x_175.toInt ∧ x_175.toInt ≤ 4 := iv_lt1 i_x_175 i_14 (Int32.not_le.mp c_182)
                                          have k_186 := Int32.lt_iff_toInt_lt.mp (Int32.not_le.mp c_182)
                                          refine lv_aload_n hx hb dX12_seated_311 rfl (lv_at hl 0 rfl) ?_
                                          refine gM_91 hx hb htg hown hK hP dX12_seated_312 ?_
                                          refine lv_iload hx hb dX12_seated_315 (lv_at hl 2 rfl) ?_
                                          refine lv_iconst (v := 0) hx hb dX12_seated_317 (by decide) ?_
                                          refine sM_91 hx hb hK hP hS hd (iv_in i_185 (by decide) (by decide)) dX12_seated_318 (fun H locs ar_187 ear_187 hP hS => ?_)
                                          have hA_ar_187 : rA ar_187 := rA_put hA_ar_176 ear_187 (iv_w (⟨by decide, by decide⟩ : (0 : Int) ≤ (0 : Int32).toInt ∧ (0 : Int32).toInt ≤ 0) (by decide) (by decide))
                                          refine lv_aload_n hx hb dX12_seated_319 rfl (lv_at hl 0 rfl) ?_
                                          refine gM_93 hx hb htg hown hK hP dX12_seated_320 ?_
                                          refine lv_iconst (v := 0) hx hb dX12_seated_323 (by decide) ?_
                                          refine lv_dup2_11 hx hb dX12_seated_324 rfl rfl ?_
                                          refine lM_93 hx hb hK hP (iv_in (⟨by decide, by decide⟩ : (0 : Int) ≤ (0 : Int32).toInt ∧ (0 : Int32).toInt ≤ 0) (by decide) (by decide)) dX12_seated_325 (fun v_188 ev_188 => ?_)
                                          refine lv_aload_n hx hb dX12_seated_326 rfl (lv_at hl 0 rfl) ?_
                                          refine gM_22 hx hb htg hown hK hP dX12_seated_327 ?_
                                          refine lv_aload_n hx hb dX12_seated_330 rfl (lv_at hl 0 rfl) ?_
                                          refine gM_1 hx hb htg hown hK hP dX12_seated_331 ?_
                                          refine lv_iload hx hb dX12_seated_334 (lv_at hl 2 rfl) ?_
                                          refine lM_1 hx hb hK hP (iv_in i_185 (by decide) (by decide)) dX12_seated_336 (fun v_189 ev_189 => ?_)
                                          have i_190 : 0 ≤ v_189.toInt ∧ v_189.toInt ≤ 255 := ev_189 ▸ hA_ar_187 1 _
                                          have i_191 : 0 ≤ v_189.toInt ∧ v_189.toInt ≤ 19 := ⟨(i_190).1, by rw [ev_189, ((fA_put (fA_call (fA_call (fA_call (fA_call (fA_call (fA_call (fA_rf [4, 90, 91, 93, 94] _) fa_8 (by decide)) fa_32 (by decide)) fa_45 (by decide)) fa_117 (by decide)) fa_162 (by decide)) fa_177 (by decide)) ear_187 (by decide)) 1 rfl)]; exact hT _ (by show ((x_175.toInt.toNat : Nat) : Int) < _; omega)⟩
                                          refine lM_22 hx hb hK hP (iv_in i_191 (by decide) (by decide)) dX12_seated_337 (fun v_192 ev_192 => ?_)
                                          refine lv_iadd hx hb dX12_seated_338 ?_
                                          refine lv_topi (fun v_193 ev_193 => ?_)
                                          refine sM_93 hx hb hK hP hS hd (iv_in (⟨by decide, by decide⟩ : (0 : Int) ≤ (0 : Int32).toInt ∧ (0 : Int32).toInt ≤ 0) (by decide) (by decide)) dX12_seated_339 (fun H locs ar_194 ear_194 hP hS => ?_)
                                          have hA_ar_194 : rA ar_194 := rA_put hA_ar_187 ear_194 (iv_any _)
                                          obtain ⟨v_195, ev_195⟩ : ∃ z : Int32, z = x_175 + 1 := ⟨_, rfl⟩
                                          refine lv_iinc (v := v_195) (lv' := [(4, .int v_195), (0, .ref h), (2, .int r_2)]) hx hb dX12_seated_340 hl (k := 2) rfl (by rw [ev_195]; rfl) (by decide) rfl (fun ls hl => ?_)
                                          have t_196 : v_195.toInt = x_175.toInt + 1 ∧ 1 ≤ v_195.toInt ∧ v_195.toInt ≤ 5 := iv_addc ev_195 i_185 (by decide) (by decide) (by decide)
                                          refine lv_goto (tgt := 305) hx hb dX12_seated_343 (by decide) ?_
                                          exact ih_179 v_195 ar_194 _ _ ls (by omega) (iv_w t_196.2 (by decide) (by decide)) hA_ar_194 (fA_put (fA_put (fA_call (fA_rf [91, 93] _) fa_177 (by decide)) ear_187 (by decide)) ear_194 (by decide)) (pS_ad (x := (0 : Int32)) (i := x_175.toInt.toNat) q_178 (show ar_194 91 = upd (ar_176 91) (x_175.toInt.toNat) (0 : Int32) from by rw [((fA_put (fA_rf [93] _) ear_194 (by decide)) 91 rfl), ear_187]; rfl) (by omega) (by omega) (by show (0 : Int) ≤ _; omega)) hP hS (lv_sub hl [1, 2, 0] rfl)
                                    · skip
                                      have z_340 : (0 : Int32).toInt = 0 := by decide
                                      exact hj_181 6 0 ar_161 _ _ ls (by first | decide | omega) (iv_w (⟨by decide, by decide⟩ : (0 : Int) ≤ (0 : Int32).toInt ∧ (0 : Int32).toInt ≤ 0) (by decide) (by decide)) hA_ar_161 (fA_rf [91, 93] _) (fun j hj => absurd hj (by omega)) hP hS (lv_sub hl [1, 2, 0] rfl)
                                  · skip
                                    have i_169 : 0 ≤ x_160.toInt ∧ x_160.toInt ≤ 7 := iv_lt1 i_x_160 i_25 (Int32.not_le.mp c_166)
                                    have k_170 := Int32.lt_iff_toInt_lt.mp (Int32.not_le.mp c_166)
                                    refine lv_aload_n hx hb dX12_seated_288 rfl (lv_at hl 0 rfl) ?_
                                    refine gM_93 hx hb htg hown hK hP dX12_seated_289 ?_
                                    refine lv_iload hx hb dX12_seated_292 (lv_at hl 2 rfl) ?_
                                    refine lv_iconst (v := 0) hx hb dX12_seated_294 (by decide) ?_
                                    refine sM_93 hx hb hK hP hS hd (iv_in i_169 (by decide) (by decide)) dX12_seated_295 (fun H locs ar_171 ear_171 hP hS => ?_)
                                    have hA_ar_171 : rA ar_171 := rA_put hA_ar_161 ear_171 (iv_any _)
                                    obtain ⟨v_172, ev_172⟩ : ∃ z : Int32, z = x_160 + 1 := ⟨_, rfl⟩
                                    refine lv_iinc (v := v_172) (lv' := [(4, .int v_172), (0, .ref h), (2, .int r_2)]) hx hb dX12_seated_296 hl (k := 2) rfl (by rw [ev_172]; rfl) (by decide) rfl (fun ls hl => ?_)
                                    have t_173 : v_172.toInt = x_160.toInt + 1 ∧ 1 ≤ v_172.toInt ∧ v_172.toInt ≤ 8 := iv_addc ev_172 i_169 (by decide) (by decide) (by decide)
                                    refine lv_goto (tgt := 279) hx hb dX12_seated_299 (by decide) ?_
                                    exact ih_163 v_172 ar_171 _ _ ls (by omega) (iv_w t_173.2 (by decide) (by decide)) hA_ar_171 (fA_put (fA_call (fA_rf [93] _) fa_162 (by decide)) ear_171 (by decide)) hP hS (lv_sub hl [1, 2, 0] rfl)
                              · skip
                                have z_341 : (0 : Int32).toInt = 0 := by decide
                                exact hj_165 9 0 ar_116 _ _ ls (by first | decide | omega) (iv_w (⟨by decide, by decide⟩ : (0 : Int) ≤ (0 : Int32).toInt ∧ (0 : Int32).toInt ≤ 0) (by decide) (by decide)) hA_ar_116 (fA_rf [93] _) hP hS (lv_sub hl [1, 2, 0] rfl)
                            · skip
                              have i_126 : 0 ≤ x_115.toInt ∧ x_115.toInt ≤ 255 := iv_lt1 i_x_115 i_122 (Int32.not_le.mp c_123)
                              have k_127 := Int32.lt_iff_toInt_lt.mp (Int32.not_le.mp c_123)
                              refine lv_aload_n hx hb dX12_seated_218 rfl (lv_at hl 0 rfl) ?_
                              refine gM_94 hx hb htg hown hK hP dX12_seated_219 ?_
                              refine lv_iload hx hb dX12_seated_222 (lv_at hl 2 rfl) ?_
                              refine lv_iconst (v := 0) hx hb dX12_seated_224 (by decide) ?_
                              refine sM_94 hx hb hK hP hS hd (iv_in i_126 (by decide) (by decide)) dX12_seated_225 (fun H locs ar_128 ear_128 hP hS => ?_)
                              have hA_ar_128 : rA ar_128 := rA_put hA_ar_116 ear_128 (iv_any _)
                              refine lv_iconst (v := 0) hx hb dX12_seated_226 (by decide) ?_
                              refine lv_istore (lv' := [(5, .int 0), (0, .ref h), (2, .int r_2), (4, .int x_115)]) hx hb dX12_seated_227 hl (by decide) rfl (fun ls hl => ?_)
                              refine my_cut (P := fun R9 a9 Q9 => ∀ (n_132 : Nat) (x_129 : Int32) (ar_130 : Nat → Nat → Int32) (H : Heap) (locs : List Loc) (ls : Array Slot), 40 - x_129.toInt < (n_132 : Int) → (0 ≤ x_129.toInt ∧ x_129.toInt ≤ 40) → rA ar_130 → fA [94] ar_128 ar_130 → va_P (dC, dI) vwCl (wsM h ad cA fv_42 wd_46 ar_130) H → va_S (aM h ad s.heap.size) s.heap H locs → lv_has ls 9 [(0, .ref h), (2, .int r_2), (4, .int x_115), (5, .int x_129)] → W p l e R9 s m a9 below meth c H locs 0 0 Q9 (F0 m 229 ls [])) ?_ (fun hj_134 => ?_)
                              · intro n_132
                                induction n_132 with
                                | zero => intro x_129 ar_130 H locs ls fu_133 i_x_129 hA_ar_130 fa_131; exfalso; omega
                                | succ n_132 ih_132 =>
                                  intro x_129 ar_130 H locs ls fu_133 i_x_129 hA_ar_130 fa_131 hP hS hl
                                  refine lv_iload hx hb dX12_seated_229 (lv_at hl 3 rfl) ?_
                                  refine lv_aload_n hx hb dX12_seated_231 rfl (lv_at hl 0 rfl) ?_
                                  refine gM_32 hx hb htg hown hK hP dX12_seated_232 ?_
                                  refine my_ti (y := fv 32) ((fr_43 32 rfl).trans ((fr_30 32 rfl).trans ((fr_7 32 rfl).trans ((congrFun efv_1 32))))) ?_
                                  refine lv_icmp_ge (tgt := 270) hx hb dX12_seated_235 (by decide) (fun c_135 => ?_) (fun c_135 => ?_)
                                  · skip
                                    have k_136 := Int32.le_iff_toInt_le.mp c_135
                                    obtain ⟨v_156, ev_156⟩ : ∃ z : Int32, z = x_115 + 1 := ⟨_, rfl⟩
                                    refine lv_iinc (v := v_156) (lv' := [(4, .int v_156), (0, .ref h), (2, .int r_2), (5, .int x_129)]) hx hb dX12_seated_270 hl (k := 2) rfl (by rw [ev_156]; rfl) (by decide) rfl (fun ls hl => ?_)
                                    have t_157 : v_156.toInt = x_115.toInt + 1 ∧ 1 ≤ v_156.toInt ∧ v_156.toInt ≤ 256 := iv_addc ev_156 i_126 (by decide) (by decide) (by decide)
                                    refine lv_goto (tgt := 207) hx hb dX12_seated_273 (by decide) ?_
                                    exact ih_118 v_156 ar_130 _ _ ls (by omega) (iv_w t_157.2 (by decide) (by decide)) hA_ar_130 (fA_call (fA_put (fA_call (fA_rf [94] _) fa_117 (by decide)) ear_128 (by decide)) fa_131 (by decide)) hP hS (lv_sub hl [1, 2, 0] rfl)
                                  · skip
                                    have i_137 : 0 ≤ x_129.toInt ∧ x_129.toInt ≤ 39 := iv_lt1 i_x_129 i_50 (Int32.not_le.mp c_135)
                                    have i_138 : 1 ≤ (fv 32).toInt ∧ (fv 32).toInt ≤ 40 := iv_lt2 i_x_129 i_50 (Int32.not_le.mp c_135)
                                    have k_139 := Int32.lt_iff_toInt_lt.mp (Int32.not_le.mp c_135)
                                    refine lv_aload_n hx hb dX12_seated_238 rfl (lv_at hl 0 rfl) ?_
                                    refine gM_90 hx hb htg hown hK hP dX12_seated_239 ?_
                                    refine lv_iload hx hb dX12_seated_242 (lv_at hl 3 rfl) ?_
                                    refine lM_90 hx hb hK hP (iv_in i_137 (by decide) (by decide)) dX12_seated_244 (fun v_140 ev_140 => ?_)
                                    refine lv_iload hx hb dX12_seated_245 (lv_at hl 2 rfl) ?_
                                    refine lv_iconst (v := (-1)) hx hb dX12_seated_247 (by decide) ?_
                                    refine lv_ixor hx hb dX12_seated_248 ?_
                                    refine lv_topi (fun v_141 ev_141 => ?_)
                                    refine lv_iand hx hb dX12_seated_249 ?_
                                    refine lv_topi (fun v_142 ev_142 => ?_)
                                    refine my_cut (P := fun R9 a9 Q9 => ∀ (ar_150 : Nat → Nat → Int32) (H : Heap) (locs : List Loc) (ls : Array Slot), rA ar_150 → fA [94] ar_130 ar_150 → va_P (dC, dI) vwCl (wsM h ad cA fv_42 wd_46 ar_150) H → va_S (aM h ad s.heap.size) s.heap H locs → lv_has ls 9 [(0, .ref h), (2, .int r_2), (4, .int x_115), (5, .int x_129)] → W p l e R9 s m a9 below meth c H locs 0 0 Q9 (F0 m 264 ls [])) ?_ (fun hj_152 => ?_)
                                    · intro ar_150 H locs ls hA_ar_150 fa_151 hP hS hl
                                      obtain ⟨v_153, ev_153⟩ : ∃ z : Int32, z = x_129 + 1 := ⟨_, rfl⟩
                                      refine lv_iinc (v := v_153) (lv' := [(5, .int v_153), (0, .ref h), (2, .int r_2), (4, .int x_115)]) hx hb dX12_seated_264 hl (k := 3) rfl (by rw [ev_153]; rfl) (by decide) rfl (fun ls hl => ?_)
                                      have t_154 : v_153.toInt = x_129.toInt + 1 ∧ 1 ≤ v_153.toInt ∧ v_153.toInt ≤ 40 := iv_addc ev_153 i_137 (by decide) (by decide) (by decide)
                                      refine lv_goto (tgt := 229) hx hb dX12_seated_267 (by decide) ?_
                                      exact ih_132 v_153 ar_150 _ _ ls (by omega) (iv_w t_154.2 (by decide) (by decide)) hA_ar_150 (fA_call (fA_call (fA_rf [94] _) fa_131 (by decide)) fa_151 (by decide)) hP hS (lv_sub hl [1, 2, 3, 0] rfl)
                                    · skip
                                      refine lv_if_eq (tgt := 264) hx hb dX12_seated_250 (by decide) (fun c_143 => ?_) (fun c_143 => ?_)
                                      · skip
                                        have i_144 : 0 ≤ v_142.toInt ∧ v_142.toInt ≤ 0 := iv_eq1 (⟨by decide, by decide⟩ : (0 : Int) ≤ (0 : Int32).toInt ∧ (0 : Int32).toInt ≤ 0) c_143
                                        exact hj_152 ar_130 _ _ ls hA_ar_130 (fA_rf [94] _) hP hS (lv_sub hl [0, 1, 2, 3] rfl)
                                      · skip
                                        have k_146 : ¬ v_142.toInt = 0 := fun q => c_143 (Int32.toInt_inj.mp q)
                                        refine lv_aload_n hx hb dX12_seated_253 rfl (lv_at hl 0 rfl) ?_
                                        refine gM_94 hx hb htg hown hK hP dX12_seated_254 ?_
                                        refine lv_iload hx hb dX12_seated_257 (lv_at hl 2 rfl) ?_
                                        refine lv_dup2_11 hx hb dX12_seated_259 rfl rfl ?_
                                        refine lM_94 hx hb hK hP (iv_in i_126 (by decide) (by decide)) dX12_seated_260 (fun v_147 ev_147 => ?_)
                                        refine lv_iconst (v := 1) hx hb dX12_seated_261 (by decide) ?_
                                        refine lv_iadd hx hb dX12_seated_262 ?_
                                        refine lv_topi (fun v_148 ev_148 => ?_)
                                        refine sM_94 hx hb hK hP hS hd (iv_in i_126 (by decide) (by decide)) dX12_seated_263 (fun H locs ar_149 ear_149 hP hS => ?_)
                                        have hA_ar_149 : rA ar_149 := rA_put hA_ar_130 ear_149 (iv_any _)
                                        exact hj_152 ar_149 _ _ ls hA_ar_149 (fA_put (fA_rf [94] _) ear_149 (by decide)) hP hS (lv_sub hl [0, 1, 2, 3] rfl)
                              · skip
                                have z_159 : (0 : Int32).toInt = 0 := by decide
                                exact hj_134 41 0 ar_128 _ _ ls (by first | decide | omega) (iv_w (⟨by decide, by decide⟩ : (0 : Int) ≤ (0 : Int32).toInt ∧ (0 : Int32).toInt ≤ 0) (by decide) (by decide)) hA_ar_128 (fA_rf [94] _) hP hS (lv_sub hl [1, 2, 3, 0] rfl)
                        · skip
                          have z_342 : (0 : Int32).toInt = 0 := by decide
                          exact hj_120 257 0 ar_44 _ _ ls (by first | decide | omega) (iv_w (⟨by decide, by decide⟩ : (0 : Int) ≤ (0 : Int32).toInt ∧ (0 : Int32).toInt ≤ 0) (by decide) (by decide)) hA_ar_44 (fA_rf [94] _) hP hS (lv_sub hl [1, 3, 0] rfl)
                      · skip
                        have i_53 : 0 ≤ x_41.toInt ∧ x_41.toInt ≤ 39 := iv_lt1 i_x_41 i_50 (Int32.not_le.mp c_51)
                        have i_54 : 1 ≤ (fv 32).toInt ∧ (fv 32).toInt ≤ 40 := iv_lt2 i_x_41 i_50 (Int32.not_le.mp c_51)
                        have k_55 := Int32.lt_iff_toInt_lt.mp (Int32.not_le.mp c_51)
                        refine lv_aload_n hx hb dX12_seated_111 rfl (lv_at hl 0 rfl) ?_
                        refine gM_90 hx hb htg hown hK hP dX12_seated_112 ?_
                        refine lv_iload hx hb dX12_seated_115 (lv_at hl 3 rfl) ?_
                        refine lv_iconst (v := 0) hx hb dX12_seated_117 (by decide) ?_
                        refine sM_90 hx hb hK hP hS hd (iv_in i_53 (by decide) (by decide)) dX12_seated_118 (fun H locs ar_56 ear_56 hP hS => ?_)
                        have hA_ar_56 : rA ar_56 := rA_put hA_ar_44 ear_56 (iv_any _)
                        refine lv_iconst (v := 0) hx hb dX12_seated_119 (by decide) ?_
                        refine lv_istore (lv' := [(5, .int 0), (0, .ref h), (1, .int mm), (2, .int r_2), (4, .int x_41)]) hx hb dX12_seated_120 hl (by decide) rfl (fun ls hl => ?_)
                        refine my_cut (P := fun R9 a9 Q9 => ∀ (n_63 : Nat) (x_57 : Int32) (fv_58 : Nat → Int32) (ar_60 : Nat → Nat → Int32) (wd_62 : Int64) (H : Heap) (locs : List Loc) (ls : Array Slot), 8 - x_57.toInt < (n_63 : Int) → (0 ≤ x_57.toInt ∧ x_57.toInt ≤ 8) → rF fv_58 → fM [8] fv_42 fv_58 → rA ar_60 → fA [4, 90] ar_56 ar_60 → va_P (dC, dI) vwCl (wsM h ad cA fv_58 wd_62 ar_60) H → va_S (aM h ad s.heap.size) s.heap H locs → lv_has ls 9 [(0, .ref h), (1, .int mm), (2, .int r_2), (4, .int x_41), (5, .int x_57)] → W p l e R9 s m a9 below meth c H locs 0 0 Q9 (F0 m 122 ls [])) ?_ (fun hj_65 => ?_)
                        · intro n_63
                          induction n_63 with
                          | zero => intro x_57 fv_58 ar_60 wd_62 H locs ls fu_64 i_x_57 hF_fv_58 fr_59 hA_ar_60 fa_61; exfalso; omega
                          | succ n_63 ih_63 =>
                            intro x_57 fv_58 ar_60 wd_62 H locs ls fu_64 i_x_57 hF_fv_58 fr_59 hA_ar_60 fa_61 hP hS hl
                            refine lv_iload hx hb dX12_seated_122 (lv_at hl 4 rfl) ?_
                            refine lv_aload_n hx hb dX12_seated_124 rfl (lv_at hl 0 rfl) ?_
                            refine gM_33 hx hb htg hown hK hP dX12_seated_125 ?_
                            refine my_ti (y := fv 33) ((fr_59 33 rfl).trans ((fr_43 33 rfl).trans ((fr_30 33 rfl).trans ((fr_7 33 rfl).trans ((congrFun efv_1 33)))))) ?_
                            refine lv_icmp_ge (tgt := 198) hx hb dX12_seated_128 (by decide) (fun c_66 => ?_) (fun c_66 => ?_)
                            · skip
                              have i_67 : 1 ≤ x_57.toInt ∧ x_57.toInt ≤ 8 := iv_le2 i_25 i_x_57 c_66
                              have k_68 := Int32.le_iff_toInt_le.mp c_66
                              obtain ⟨v_111, ev_111⟩ : ∃ z : Int32, z = x_41 + 1 := ⟨_, rfl⟩
                              refine lv_iinc (v := v_111) (lv' := [(4, .int v_111), (0, .ref h), (1, .int mm), (2, .int r_2), (5, .int x_57)]) hx hb dX12_seated_198 hl (k := 3) rfl (by rw [ev_111]; rfl) (by decide) rfl (fun ls hl => ?_)
                              have t_112 : v_111.toInt = x_41.toInt + 1 ∧ 1 ≤ v_111.toInt ∧ v_111.toInt ≤ 40 := iv_addc ev_111 i_53 (by decide) (by decide) (by decide)
                              refine lv_goto (tgt := 102) hx hb dX12_seated_201 (by decide) ?_
                              exact ih_47 v_111 fv_58 ar_60 wd_62 _ _ ls (by omega) (iv_w t_112.2 (by decide) (by decide)) hF_fv_58 (fM_call (fM_call (fM_rf [8] _) fr_43 (by decide)) fr_59 (by decide)) hA_ar_60 (fA_call (fA_put (fA_call (fA_rf [4, 90] _) fa_45 (by decide)) ear_56 (by decide)) fa_61 (by decide)) hP hS (lv_sub hl [1, 2, 3, 0] rfl)
                            · skip
                              have i_69 : 0 ≤ x_57.toInt ∧ x_57.toInt ≤ 7 := iv_lt1 i_x_57 i_25 (Int32.not_le.mp c_66)
                              have k_70 := Int32.lt_iff_toInt_lt.mp (Int32.not_le.mp c_66)
                              refine lv_aload_n hx hb dX12_seated_131 rfl (lv_at hl 0 rfl) ?_
                              refine lv_aload_n hx hb dX12_seated_132 rfl (lv_at hl 0 rfl) ?_
                              refine gM_9 hx hb htg hown hK hP dX12_seated_133 ?_
                              refine lv_iload hx hb dX12_seated_136 (lv_at hl 3 rfl) ?_
                              refine lM_9 hx hb hK hP (iv_in i_53 (by decide) (by decide)) dX12_seated_138 (fun v_71 ev_71 => ?_)
                              have i_72 : 0 ≤ v_71.toInt ∧ v_71.toInt ≤ 11 := ev_71 ▸ hA_ar_60 9 _
                              refine lv_aload_n hx hb dX12_seated_139 rfl (lv_at hl 0 rfl) ?_
                              refine gM_19 hx hb htg hown hK hP dX12_seated_140 ?_
                              refine lv_iload hx hb dX12_seated_143 (lv_at hl 4 rfl) ?_
                              refine lM_19 hx hb hK hP (iv_in i_69 (by decide) (by decide)) dX12_seated_145 (fun v_73 ev_73 => ?_)
                              have i_74 : 0 ≤ v_73.toInt ∧ v_73.toInt ≤ 11 := ev_73 ▸ hA_ar_60 19 _
                              refine va_calli (va_runV (As := [.int v_71, .int v_73]) (rest := []) ⟨hx, hb, hml, hown, hts⟩ (m_farOf l dC dI H.size h ad cA hd fv_58 wd_62 ar_60 hF_fv_58 hA_ar_60 v_71 v_73 i_72 i_74) (cwV 2 hts (gV kw_7_237 kw_7_239 kw_p_59 kw_1_15 kw_8_0) rfl rfl rfl (by decide +kernel) ⟨Nat.le_of_ble_eq_true rfl, Nat.le_of_ble_eq_true rfl⟩) ⟨fun a U g mk q => ⟨q.1, q.2.1, q.2.2.1, va_K.moved (u := U) (U := U.calling g mk a) (Vm.Alike.refl U.vm) q.2.2.2⟩, va_recv hK hP (ci := 12) (q0 := 0) rfl rfl, fun U hU hW => ⟨rfl, by rw [hU], by rw [hU]; exact hP, va_K.moved hW.alike hK⟩⟩ rfl rfl hl.1 rfl (lv_room (Nat.le_of_ble_eq_true rfl)) dX12_seated_146 ⟨Nat.le_of_ble_eq_true rfl, Nat.le_of_ble_eq_true rfl⟩) hS (fun q _ h9 => aM_up hS q h9) (aM_up hS) (fun r_75 u t H1 locs ht _ hw hB _ hk1 hS => ?_)
                              obtain ⟨fv_76, wd_77, ar_78⟩ := u
                              obtain ⟨hF_fv_76, hA_ar_78, fr_79, fa_80, -⟩ := hw
                              have hP : va_P (dC, dI) vwCl (wsM h ad cA fv_76 wd_77 ar_78) H1 := by have h9 := hB.1; rw [ht] at h9; exact h9
                              have fr_79 : fM [8] fv_58 fv_76 := fr_79
                              have fa_80 : fA [4] ar_60 ar_78 := fa_80
                              generalize H1 = H at hP hS ⊢
                              refine lv_ldc hx hb hown (htg (.constant RX12 225 100000) kw_7_232) dX12_seated_149 ?_
                              refine my_cut (P := fun R9 a9 Q9 => ∀ (fv_102 : Nat → Int32) (ar_104 : Nat → Nat → Int32) (wd_106 : Int64) (H : Heap) (locs : List Loc) (ls : Array Slot), rF fv_102 → fM [8] fv_76 fv_102 → rA ar_104 → fA [4, 90] ar_78 ar_104 → va_P (dC, dI) vwCl (wsM h ad cA fv_102 wd_106 ar_104) H → va_S (aM h ad s.heap.size) s.heap H locs → lv_has ls 9 [(0, .ref h), (1, .int mm), (2, .int r_2), (4, .int x_41), (5, .int x_57)] → W p l e R9 s m a9 below meth c H locs 0 0 Q9 (F0 m 192 ls [])) ?_ (fun hj_107 => ?_)
                              · intro fv_102 ar_104 wd_106 H locs ls hF_fv_102 fr_103 hA_ar_104 fa_105 hP hS hl
                                obtain ⟨v_108, ev_108⟩ : ∃ z : Int32, z = x_57 + 1 := ⟨_, rfl⟩
                                refine lv_iinc (v := v_108) (lv' := [(5, .int v_108), (0, .ref h), (1, .int mm), (2, .int r_2), (4, .int x_41)]) hx hb dX12_seated_192 hl (k := 4) rfl (by rw [ev_108]; rfl) (by decide) rfl (fun ls hl => ?_)
                                have t_109 : v_108.toInt = x_57.toInt + 1 ∧ 1 ≤ v_108.toInt ∧ v_108.toInt ≤ 8 := iv_addc ev_108 i_69 (by decide) (by decide) (by decide)
                                refine lv_goto (tgt := 122) hx hb dX12_seated_195 (by decide) ?_
                                exact ih_63 v_108 fv_102 ar_104 wd_106 _ _ ls (by omega) (iv_w t_109.2 (by decide) (by decide)) hF_fv_102 (fM_call (fM_call (fM_call (fM_rf [8] _) fr_59 (by decide)) fr_79 (by decide)) fr_103 (by decide)) hA_ar_104 (fA_call (fA_call (fA_call (fA_rf [4, 90] _) fa_61 (by decide)) fa_80 (by decide)) fa_105 (by decide)) hP hS (lv_sub hl [1, 2, 3, 4, 0] rfl)
                              · skip
                                refine lv_icmp_ge (tgt := 192) hx hb dX12_seated_151 (by decide) (fun c_81 => ?_) (fun c_81 => ?_)
                                · skip
                                  have i_82 : 100000 ≤ r_75.toInt ∧ r_75.toInt ≤ 2147483647 := iv_le2 (⟨by decide, by decide⟩ : (100000 : Int) ≤ (100000 : Int32).toInt ∧ (100000 : Int32).toInt ≤ 100000) (iv_any r_75) c_81
                                  exact hj_107 fv_76 ar_78 wd_77 _ _ ls hF_fv_76 (fM_rf [8] _) hA_ar_78 (fA_rf [4, 90] _) hP hS (lv_sub hl [0, 1, 2, 3, 4] rfl)
                                · skip
                                  have i_83 : (-2147483648) ≤ r_75.toInt ∧ r_75.toInt ≤ 99999 := iv_lt1 (iv_any r_75) (⟨by decide, by decide⟩ : (100000 : Int) ≤ (100000 : Int32).toInt ∧ (100000 : Int32).toInt ≤ 100000) (Int32.not_le.mp c_81)
                                  refine lv_aload_n hx hb dX12_seated_154 rfl (lv_at hl 0 rfl) ?_
                                  refine lv_iload hx hb dX12_seated_155 (lv_at hl 3 rfl) ?_
                                  refine lv_aload_n hx hb dX12_seated_157 rfl (lv_at hl 0 rfl) ?_
                                  refine gM_9 hx hb htg hown hK hP dX12_seated_158 ?_
                                  refine lv_iload hx hb dX12_seated_161 (lv_at hl 3 rfl) ?_
                                  refine lM_9 hx hb hK hP (iv_in i_53 (by decide) (by decide)) dX12_seated_163 (fun v_84 ev_84 => ?_)
                                  obtain rfl : v_71 = v_84 := ev_71.trans ((congrFun ((fA_call (fA_rf [4] _) fa_80 (by decide)) 9 rfl) _).symm.trans ev_84.symm)
                                  refine lv_aload_n hx hb dX12_seated_164 rfl (lv_at hl 0 rfl) ?_
                                  refine gM_19 hx hb htg hown hK hP dX12_seated_165 ?_
                                  refine lv_iload hx hb dX12_seated_168 (lv_at hl 4 rfl) ?_
                                  refine lM_19 hx hb hK hP (iv_in i_69 (by decide) (by decide)) dX12_seated_170 (fun v_85 ev_85 => ?_)
                                  obtain rfl : v_73 = v_85 := ev_73.trans ((congrFun ((fA_call (fA_rf [4] _) fa_80 (by decide)) 19 rfl) _).symm.trans ev_85.symm)
                                  refine va_calli (va_runV (As := [.int x_41, .int v_71, .int v_73]) (rest := []) ⟨hx, hb, hml, hown, hts⟩ (m_walk l dC dI H.size h ad cA hd fv_76 wd_77 ar_78 hF_fv_76 hA_ar_78 x_41 v_71 v_73 i_53 i_72 i_74) (cwV 3 hts (gV kw_8_208 kw_8_210 kw_p_92 kw_1_15 kw_8_211) rfl rfl rfl (by decide +kernel) ⟨Nat.le_of_ble_eq_true rfl, Nat.le_of_ble_eq_true rfl⟩) ⟨fun a U g mk q => ⟨q.1, q.2.1, q.2.2.1, va_K.moved (u := U) (U := U.calling g mk a) (Vm.Alike.refl U.vm) q.2.2.2⟩, va_recv hK hP (ci := 12) (q0 := 0) rfl rfl, fun U hU hW => ⟨rfl, by rw [hU], by rw [hU]; exact hP, va_K.moved hW.alike hK⟩⟩ rfl rfl hl.1 rfl (lv_room (Nat.le_of_ble_eq_true rfl)) dX12_seated_171 ⟨Nat.le_of_ble_eq_true rfl, Nat.le_of_ble_eq_true rfl⟩) hS (fun q _ h9 => aM_up hS q h9) (aM_up hS) (fun r_86 u t H1 locs ht _ hw hB _ hk1 hS => ?_)
                                  obtain ⟨fv_87, wd_88, ar_89⟩ := u
                                  obtain ⟨hF_fv_87, hA_ar_89, fr_90, fa_91, -⟩ := hw
                                  have hP : va_P (dC, dI) vwCl (wsM h ad cA fv_87 wd_88 ar_89) H1 := by have h9 := hB.1; rw [ht] at h9; exact h9
                                  have fr_90 : fM [8] fv_76 fv_87 := fr_90
                                  have fa_91 : fA [4] ar_78 ar_89 := fa_91
                                  generalize H1 = H at hP hS ⊢
                                  refine lv_iload_n hx hb dX12_seated_174 rfl (lv_at hl 1 rfl) ?_
                                  refine lv_icmp_gt (tgt := 192) hx hb dX12_seated_175 (by decide) (fun c_92 => ?_) (fun c_92 => ?_)
                                  · skip
                                    have i_93 : 1 ≤ r_86.toInt ∧ r_86.toInt ≤ 2147483647 := iv_lt2 i_21 (iv_any r_86) c_92
                                    have k_94 := Int32.lt_iff_toInt_lt.mp c_92
                                    exact hj_107 fv_87 ar_89 wd_88 _ _ ls hF_fv_87 (fM_call (fM_rf [8] _) fr_90 (by decide)) hA_ar_89 (fA_call (fA_rf [4, 90] _) fa_91 (by decide)) hP hS (lv_sub hl [0, 1, 2, 3, 4] rfl)
                                  · skip
                                    have i_95 : (-2147483648) ≤ r_86.toInt ∧ r_86.toInt ≤ 200 := iv_le1 (iv_any r_86) i_21 (Int32.not_lt.mp c_92)
                                    have k_96 := Int32.le_iff_toInt_le.mp (Int32.not_lt.mp c_92)
                                    refine lv_aload_n hx hb dX12_seated_178 rfl (lv_at hl 0 rfl) ?_
                                    refine gM_90 hx hb htg hown hK hP dX12_seated_179 ?_
                                    refine lv_iload hx hb dX12_seated_182 (lv_at hl 3 rfl) ?_
                                    refine lv_dup2_11 hx hb dX12_seated_184 rfl rfl ?_
                                    refine lM_90 hx hb hK hP (iv_in i_53 (by decide) (by decide)) dX12_seated_185 (fun v_97 ev_97 => ?_)
                                    refine lv_iconst (v := 1) hx hb dX12_seated_186 (by decide) ?_
                                    refine lv_iload hx hb dX12_seated_187 (lv_at hl 4 rfl) ?_
                                    refine lv_ishl hx hb dX12_seated_189 ?_
                                    refine lv_topi (fun v_98 ev_98 => ?_)
                                    have i_99 : 1 ≤ v_98.toInt ∧ v_98.toInt ≤ 128 := iv_shl (k := 7) ev_98 (iv_w i_69 (by decide) (by decide)) rfl (by decide)
                                    refine lv_ior hx hb dX12_seated_190 ?_
                                    refine lv_topi (fun v_100 ev_100 => ?_)
                                    refine sM_90 hx hb hK hP hS hd (iv_in i_53 (by decide) (by decide)) dX12_seated_191 (fun H locs ar_101 ear_101 hP hS => ?_)
                                    have hA_ar_101 : rA ar_101 := rA_put hA_ar_89 ear_101 (iv_any _)
                                    exact hj_107 fv_87 ar_101 wd_88 _ _ ls hF_fv_87 (fM_call (fM_rf [8] _) fr_90 (by decide)) hA_ar_101 (fA_put (fA_call (fA_rf [4, 90] _) fa_91 (by decide)) ear_101 (by decide)) hP hS (lv_sub hl [0, 1, 2, 3, 4] rfl)
                        · skip
                          have z_114 : (0 : Int32).toInt = 0 := by decide
                          exact hj_65 9 0 fv_42 ar_56 wd_46 _ _ ls (by first | decide | omega) (iv_w (⟨by decide, by decide⟩ : (0 : Int) ≤ (0 : Int32).toInt ∧ (0 : Int32).toInt ≤ 0) (by decide) (by decide)) hF_fv_42 (fM_rf [8] _) hA_ar_56 (fA_rf [4, 90] _) hP hS (lv_sub hl [1, 2, 3, 4, 0] rfl)
                  · skip
                    have z_343 : (0 : Int32).toInt = 0 := by decide
                    exact hj_49 41 0 fv_29 ar_31 wd_33 _ _ ls (by first | decide | omega) (iv_w (⟨by decide, by decide⟩ : (0 : Int) ≤ (0 : Int32).toInt ∧ (0 : Int32).toInt ≤ 0) (by decide) (by decide)) hF_fv_29 (fM_rf [8] _) hA_ar_31 (fA_rf [4, 90] _) hP hS (lv_sub hl [1, 2, 3, 0] rfl)
                · skip
                  have i_344 : 0 ≤ x_28.toInt ∧ x_28.toInt ≤ 4 := iv_lt1 i_x_28 i_14 (Int32.not_le.mp c_38)
                  have k_345 := Int32.lt_iff_toInt_lt.mp (Int32.not_le.mp c_38)
                  refine lv_aload_n hx hb dX12_seated_50 rfl (lv_at hl 0 rfl) ?_
                  refine lv_aload_n hx hb dX12_seated_51 rfl (lv_at hl 0 rfl) ?_
                  refine gM_1 hx hb htg hown hK hP dX12_seated_52 ?_
                  refine lv_iload hx hb dX12_seated_55 (lv_at hl 4 rfl) ?_
                  refine lM_1 hx hb hK hP (iv_in i_344 (by decide) (by decide)) dX12_seated_57 (fun v_346 ev_346 => ?_)
                  have i_347 : 0 ≤ v_346.toInt ∧ v_346.toInt ≤ 255 := ev_346 ▸ hA_ar_31 1 _
                  refine va_calli (va_runV (As := [.int v_346]) (rest := []) ⟨hx, hb, hml, hown, hts⟩ (m_isWheel l dC dI H.size h ad cA hd fv_29 wd_33 ar_31 hF_fv_29 hA_ar_31 v_346) (cwV 1 hts (gV kw_8_40 kw_8_42 kw_p_63 kw_1_15 kw_8_43) rfl rfl rfl (by decide +kernel) ⟨Nat.le_of_ble_eq_true rfl, Nat.le_of_ble_eq_true rfl⟩) ⟨fun a U g mk q => ⟨q.1, q.2.1, q.2.2.1, va_K.moved (u := U) (U := U.calling g mk a) (Vm.Alike.refl U.vm) q.2.2.2⟩, va_recv hK hP (ci := 12) (q0 := 0) rfl rfl, fun U hU hW => ⟨rfl, by rw [hU], by rw [hU]; exact hP, va_K.moved hW.alike hK⟩⟩ rfl rfl hl.1 rfl (lv_room (Nat.le_of_ble_eq_true rfl)) dX12_seated_58 ⟨Nat.le_of_ble_eq_true rfl, Nat.le_of_ble_eq_true rfl⟩) hS (fun q _ h9 => aM_up hS q h9) (aM_up hS) (fun r_348 u t H1 locs ht _ hw hB _ hk1 hS => ?_)
                  obtain ⟨fv_351, wd_352, ar_353⟩ := u
                  obtain ⟨hF_fv_351, hA_ar_353, fr_354, fa_355, p_349, p_350, -⟩ := hw
                  have hP : va_P (dC, dI) vwCl (wsM h ad cA fv_351 wd_352 ar_353) H1 := by have h9 := hB.1; rw [ht] at h9; exact h9
                  have fr_354 : fM [] fv_29 fv_351 := fr_354
                  have fa_355 : fA [] ar_31 ar_353 := fa_355
                  generalize H1 = H at hP hS ⊢
                  rcases p_350 with ⟨rfl, p_350⟩ | ⟨rfl, p_350⟩
                  · skip
                    refine lv_if_eq (tgt := 79) hx hb dX12_seated_61 (by decide) (fun c_356 => ?_) (fun c_356 => ?_)
                    · skip
                      refine lv_iconst (v := (-1)) hx hb dX12_seated_79 (by decide) ?_
                      exact W.iret (v := (-1)) hx hb hr (fun t ht hW => ⟨⟨(-1), (fv_351, wd_352, ar_353), rfl, ⟨hF_fv_351, hA_ar_353, (fM_call (fM_call (fM_call (fM_put (fM_rf [0, 2, 8, 95] _) efv_1 (by decide)) fr_7 (by decide)) fr_30 (by decide)) fr_354 (by decide)), (fA_call (fA_call (fA_call (fA_rf [4, 90, 91, 92, 93, 94] _) fa_8 (by decide)) fa_32 (by decide)) fa_355 (by decide)), trivial⟩, ⟨by rw [ht]; exact hP, va_K.moved hW.alike hK⟩⟩, hS.F ht⟩) hS.2.2 dX12_seated_80
                    · skip
                      exact absurd c_356 (by decide)
                  · skip
                    have i_357 : 0 ≤ v_346.toInt ∧ v_346.toInt ≤ 19 := ⟨i_347.1, p_350.2⟩
                    refine lv_if_eq (tgt := 79) hx hb dX12_seated_61 (by decide) (fun c_358 => ?_) (fun c_358 => ?_)
                    · skip
                      exact absurd c_358 (by decide)
                    · skip
                      refine lv_iload_n hx hb dX12_seated_64 rfl (lv_at hl 3 rfl) ?_
                      refine lv_aload_n hx hb dX12_seated_65 rfl (lv_at hl 0 rfl) ?_
                      refine gM_1 hx hb htg hown hK hP dX12_seated_66 ?_
                      refine lv_iload hx hb dX12_seated_69 (lv_at hl 4 rfl) ?_
                      refine lM_1 hx hb hK hP (iv_in i_344 (by decide) (by decide)) dX12_seated_71 (fun v_359 ev_359 => ?_)
                      obtain rfl : v_346 = v_359 := ev_346.trans ((congrFun ((fA_call (fA_rf [] _) fa_355 (by decide)) 1 rfl) _).symm.trans ev_359.symm)
                      refine lv_ishr hx hb dX12_seated_72 ?_
                      refine lv_topi (fun v_360 ev_360 => ?_)
                      refine lv_iconst (v := 1) hx hb dX12_seated_73 (by decide) ?_
                      refine lv_iand hx hb dX12_seated_74 ?_
                      refine lv_topi (fun v_361 ev_361 => ?_)
                      have i_362 : 0 ≤ v_361.toInt ∧ v_361.toInt ≤ 1 := iv_1 ev_361
                      refine lv_iconst (v := 1) hx hb dX12_seated_75 (by decide) ?_
                      refine lv_icmp_ne (tgt := 81) hx hb dX12_seated_76 (by decide) (fun c_363 => ?_) (fun c_363 => ?_)
                      · skip
                        have i_364 : 0 ≤ v_361.toInt ∧ v_361.toInt ≤ 0 := iv_neh i_362 (by decide) c_363
                        have k_365 : ¬ v_361.toInt = 1 := fun q => c_363 (Int32.toInt_inj.mp q)
                        refine lv_iload_n hx hb dX12_seated_81 rfl (lv_at hl 3 rfl) ?_
                        refine lv_iconst (v := 1) hx hb dX12_seated_82 (by decide) ?_
                        refine lv_aload_n hx hb dX12_seated_83 rfl (lv_at hl 0 rfl) ?_
                        refine gM_1 hx hb htg hown hK hP dX12_seated_84 ?_
                        refine lv_iload hx hb dX12_seated_87 (lv_at hl 4 rfl) ?_
                        refine lM_1 hx hb hK hP (iv_in i_344 (by decide) (by decide)) dX12_seated_89 (fun v_366 ev_366 => ?_)
                        obtain rfl : v_346 = v_366 := ev_346.trans ((congrFun ((fA_call (fA_rf [] _) fa_355 (by decide)) 1 rfl) _).symm.trans ev_366.symm)
                        refine lv_ishl hx hb dX12_seated_90 ?_
                        refine lv_topi (fun v_367 ev_367 => ?_)
                        have i_368 : 1 ≤ v_367.toInt ∧ v_367.toInt ≤ 524288 := iv_shl (k := 19) ev_367 (iv_w i_357 (by decide) (by decide)) rfl (by decide)
                        refine lv_ior hx hb dX12_seated_91 ?_
                        refine lv_topi (fun v_369 ev_369 => ?_)
                        refine lv_istore_n (lv' := [(3, .int v_369), (0, .ref h), (1, .int mm), (2, .int r_2), (4, .int x_28)]) hx hb dX12_seated_92 rfl hl (by decide) rfl (fun ls hl => ?_)
                        obtain ⟨v_370, ev_370⟩ : ∃ z : Int32, z = x_28 + 1 := ⟨_, rfl⟩
                        refine lv_iinc (v := v_370) (lv' := [(4, .int v_370), (3, .int v_369), (0, .ref h), (1, .int mm), (2, .int r_2)]) hx hb dX12_seated_93 hl (k := 4) rfl (by rw [ev_370]; rfl) (by decide) rfl (fun ls hl => ?_)
                        have t_371 : v_370.toInt = x_28.toInt + 1 ∧ 1 ≤ v_370.toInt ∧ v_370.toInt ≤ 5 := iv_addc ev_370 i_344 (by decide) (by decide) (by decide)
                        refine lv_goto (tgt := 44) hx hb dX12_seated_96 (by decide) ?_
                        exact ih_35 v_369 v_370 fv_351 ar_353 wd_352 _ _ ls (by omega) (iv_w t_371.2 (by decide) (by decide)) hF_fv_351 (fM_call (fM_call (fM_rf [] _) fr_30 (by decide)) fr_354 (by decide)) hA_ar_353 (fA_call (fA_call (fA_rf [] _) fa_32 (by decide)) fa_355 (by decide)) (fun j hj => by rcases Int.lt_or_le (j : Int) x_28.toInt with c9 | c9; exact q_34 j c9; rw [show j = x_28.toInt.toNat from by omega]; show (ar 1 (Int32.toNatClampNeg x_28)).toInt ≤ 19; rw [← ((fA_call (fA_call (fA_rf [] _) fa_8 (by decide)) fa_32 (by decide)) 1 rfl), ← ev_346]; exact (i_357).2) hP hS (lv_sub hl [2, 3, 4, 1, 0] rfl)
                      · skip
                        have i_373 : 1 ≤ v_361.toInt ∧ v_361.toInt ≤ 1 := iv_eq1 (⟨by decide, by decide⟩ : (1 : Int) ≤ (1 : Int32).toInt ∧ (1 : Int32).toInt ≤ 1) c_363
                        refine lv_iconst (v := (-1)) hx hb dX12_seated_79 (by decide) ?_
                        exact W.iret (v := (-1)) hx hb hr (fun t ht hW => ⟨⟨(-1), (fv_351, wd_352, ar_353), rfl, ⟨hF_fv_351, hA_ar_353, (fM_call (fM_call (fM_call (fM_put (fM_rf [0, 2, 8, 95] _) efv_1 (by decide)) fr_7 (by decide)) fr_30 (by decide)) fr_354 (by decide)), (fA_call (fA_call (fA_call (fA_rf [4, 90, 91, 92, 93, 94] _) fa_8 (by decide)) fa_32 (by decide)) fa_355 (by decide)), trivial⟩, ⟨by rw [ht]; exact hP, va_K.moved hW.alike hK⟩⟩, hS.F ht⟩) hS.2.2 dX12_seated_80
            · skip
              have z_375 : (0 : Int32).toInt = 0 := by decide
              exact hj_37 6 0 0 fv_4 ar_6 wd_5 _ _ ls (by first | decide | omega) (iv_w (⟨by decide, by decide⟩ : (0 : Int) ≤ (0 : Int32).toInt ∧ (0 : Int32).toInt ≤ 0) (by decide) (by decide)) hF_fv_4 (fM_rf [] _) hA_ar_6 (fA_rf [] _) (fun j hj => absurd hj (by omega)) hP hS (lv_sub hl [3, 4, 2, 1, 0] rfl)
          · skip
            have i_376 : 0 ≤ (fv 33).toInt ∧ (fv 33).toInt ≤ 0 := iv_eq1 (⟨by decide, by decide⟩ : (0 : Int) ≤ (0 : Int32).toInt ∧ (0 : Int32).toInt ≤ 0) c_24
            refine lv_iconst (v := (-1)) hx hb dX12_seated_37 (by decide) ?_
            exact W.iret (v := (-1)) hx hb hr (fun t ht hW => ⟨⟨(-1), (fv_4, wd_5, ar_6), rfl, ⟨hF_fv_4, hA_ar_6, (fM_call (fM_put (fM_rf [0, 2, 8, 95] _) efv_1 (by decide)) fr_7 (by decide)), (fA_call (fA_rf [4, 90, 91, 92, 93, 94] _) fa_8 (by decide)), trivial⟩, ⟨by rw [ht]; exact hP, va_K.moved hW.alike hK⟩⟩, hS.F ht⟩) hS.2.2 dX12_seated_38
