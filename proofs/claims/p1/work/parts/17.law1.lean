theorem dL_law_23 : decode cL_law 23 = .ok (.iload 4, 2) := by decide +kernel
theorem dL_law_25 : decode cL_law 25 = .ok (.aload_n 0, 1) := by decide +kernel
theorem dL_law_26 : decode cL_law 26 = .ok (.arraylength, 1) := by decide +kernel
theorem dL_law_27 : decode cL_law 27 = .ok (.bipush 7, 2) := by decide +kernel
theorem dL_law_29 : decode cL_law 29 = .ok (.isub, 1) := by decide +kernel
theorem dL_law_30 : decode cL_law 30 = .ok (.if_icmp .gt 1018, 3) := by decide +kernel
theorem dL_law_156 : decode cL_law 156 = .ok (.aload_n 1, 1) := by decide +kernel
theorem dL_law_157 : decode cL_law 157 = .ok (.aload_n 0, 1) := by decide +kernel
theorem dL_law_158 : decode cL_law 158 = .ok (.iload 4, 2) := by decide +kernel
theorem dL_law_160 : decode cL_law 160 = .ok (.iconst 1, 1) := by decide +kernel
theorem dL_law_161 : decode cL_law 161 = .ok (.iadd, 1) := by decide +kernel
theorem dL_law_162 : decode cL_law 162 = .ok (.iaload, 1) := by decide +kernel
theorem dL_law_163 : decode cL_law 163 = .ok (.aload_n 0, 1) := by decide +kernel
theorem dL_law_164 : decode cL_law 164 = .ok (.iload 4, 2) := by decide +kernel
theorem dL_law_166 : decode cL_law 166 = .ok (.iconst 2, 1) := by decide +kernel
theorem dL_law_167 : decode cL_law 167 = .ok (.iadd, 1) := by decide +kernel
theorem dL_law_168 : decode cL_law 168 = .ok (.iaload, 1) := by decide +kernel
theorem dL_law_169 : decode cL_law 169 = .ok (.aload_n 0, 1) := by decide +kernel
theorem dL_law_170 : decode cL_law 170 = .ok (.iload 4, 2) := by decide +kernel
theorem dL_law_172 : decode cL_law 172 = .ok (.iconst 3, 1) := by decide +kernel
theorem dL_law_173 : decode cL_law 173 = .ok (.iadd, 1) := by decide +kernel
theorem dL_law_174 : decode cL_law 174 = .ok (.iaload, 1) := by decide +kernel
theorem dL_law_175 : decode cL_law 175 = .ok (.aload_n 0, 1) := by decide +kernel
theorem dL_law_176 : decode cL_law 176 = .ok (.iload 4, 2) := by decide +kernel
theorem dL_law_178 : decode cL_law 178 = .ok (.iconst 4, 1) := by decide +kernel
theorem dL_law_179 : decode cL_law 179 = .ok (.iadd, 1) := by decide +kernel
theorem dL_law_180 : decode cL_law 180 = .ok (.iaload, 1) := by decide +kernel
theorem dL_law_181 : decode cL_law 181 = .ok (.aload_n 0, 1) := by decide +kernel
theorem dL_law_182 : decode cL_law 182 = .ok (.iload 4, 2) := by decide +kernel
theorem dL_law_184 : decode cL_law 184 = .ok (.iconst 5, 1) := by decide +kernel
theorem dL_law_185 : decode cL_law 185 = .ok (.iadd, 1) := by decide +kernel
theorem dL_law_186 : decode cL_law 186 = .ok (.iaload, 1) := by decide +kernel
theorem dL_law_187 : decode cL_law 187 = .ok (.invokevirtual 19, 3) := by decide +kernel
theorem dL_law_190 : decode cL_law 190 = .ok (.aload_n 2, 1) := by decide +kernel
theorem dL_law_191 : decode cL_law 191 = .ok (.aload_n 0, 1) := by decide +kernel
theorem dL_law_192 : decode cL_law 192 = .ok (.iload 4, 2) := by decide +kernel
theorem dL_law_194 : decode cL_law 194 = .ok (.iconst 1, 1) := by decide +kernel
theorem dL_law_195 : decode cL_law 195 = .ok (.iadd, 1) := by decide +kernel
theorem dL_law_196 : decode cL_law 196 = .ok (.iaload, 1) := by decide +kernel
theorem dL_law_197 : decode cL_law 197 = .ok (.aload_n 0, 1) := by decide +kernel
theorem dL_law_198 : decode cL_law 198 = .ok (.iload 4, 2) := by decide +kernel
theorem dL_law_200 : decode cL_law 200 = .ok (.iconst 2, 1) := by decide +kernel
theorem dL_law_201 : decode cL_law 201 = .ok (.iadd, 1) := by decide +kernel
theorem dL_law_202 : decode cL_law 202 = .ok (.iaload, 1) := by decide +kernel
theorem dL_law_203 : decode cL_law 203 = .ok (.aload_n 0, 1) := by decide +kernel
theorem dL_law_204 : decode cL_law 204 = .ok (.iload 4, 2) := by decide +kernel
theorem dL_law_206 : decode cL_law 206 = .ok (.iconst 3, 1) := by decide +kernel
theorem dL_law_207 : decode cL_law 207 = .ok (.iadd, 1) := by decide +kernel
theorem dL_law_208 : decode cL_law 208 = .ok (.iaload, 1) := by decide +kernel
theorem dL_law_209 : decode cL_law 209 = .ok (.aload_n 0, 1) := by decide +kernel
theorem dL_law_210 : decode cL_law 210 = .ok (.iload 4, 2) := by decide +kernel
theorem dL_law_212 : decode cL_law 212 = .ok (.iconst 4, 1) := by decide +kernel
theorem dL_law_213 : decode cL_law 213 = .ok (.iadd, 1) := by decide +kernel
theorem dL_law_214 : decode cL_law 214 = .ok (.iaload, 1) := by decide +kernel
theorem dL_law_215 : decode cL_law 215 = .ok (.aload_n 0, 1) := by decide +kernel
theorem dL_law_216 : decode cL_law 216 = .ok (.iload 4, 2) := by decide +kernel
theorem dL_law_218 : decode cL_law 218 = .ok (.iconst 5, 1) := by decide +kernel
theorem dL_law_219 : decode cL_law 219 = .ok (.iadd, 1) := by decide +kernel
theorem dL_law_220 : decode cL_law 220 = .ok (.iaload, 1) := by decide +kernel
theorem dL_law_221 : decode cL_law 221 = .ok (.invokevirtual 23, 3) := by decide +kernel
theorem dL_law_224 : decode cL_law 224 = .ok (.if_icmp .eq 818, 3) := by decide +kernel
theorem dL_law_229 : decode cL_law 229 = .ok (.aload_n 1, 1) := by decide +kernel
theorem dL_law_230 : decode cL_law 230 = .ok (.aload_n 0, 1) := by decide +kernel
theorem dL_law_231 : decode cL_law 231 = .ok (.iload 4, 2) := by decide +kernel
theorem dL_law_233 : decode cL_law 233 = .ok (.iconst 1, 1) := by decide +kernel
theorem dL_law_234 : decode cL_law 234 = .ok (.iadd, 1) := by decide +kernel
theorem dL_law_235 : decode cL_law 235 = .ok (.iaload, 1) := by decide +kernel
theorem dL_law_236 : decode cL_law 236 = .ok (.invokevirtual 24, 3) := by decide +kernel
theorem dL_law_239 : decode cL_law 239 = .ok (.aload_n 2, 1) := by decide +kernel
theorem dL_law_240 : decode cL_law 240 = .ok (.aload_n 0, 1) := by decide +kernel
theorem dL_law_241 : decode cL_law 241 = .ok (.iload 4, 2) := by decide +kernel
theorem dL_law_243 : decode cL_law 243 = .ok (.iconst 1, 1) := by decide +kernel
theorem dL_law_244 : decode cL_law 244 = .ok (.iadd, 1) := by decide +kernel
theorem dL_law_245 : decode cL_law 245 = .ok (.iaload, 1) := by decide +kernel
theorem dL_law_246 : decode cL_law 246 = .ok (.invokevirtual 28, 3) := by decide +kernel
theorem dL_law_249 : decode cL_law 249 = .ok (.if_icmp .eq 793, 3) := by decide +kernel
theorem dL_law_254 : decode cL_law 254 = .ok (.aload_n 1, 1) := by decide +kernel
theorem dL_law_255 : decode cL_law 255 = .ok (.aload_n 0, 1) := by decide +kernel
theorem dL_law_256 : decode cL_law 256 = .ok (.iload 4, 2) := by decide +kernel
theorem dL_law_258 : decode cL_law 258 = .ok (.iconst 1, 1) := by decide +kernel
theorem dL_law_259 : decode cL_law 259 = .ok (.iadd, 1) := by decide +kernel
theorem dL_law_260 : decode cL_law 260 = .ok (.iaload, 1) := by decide +kernel
theorem dL_law_261 : decode cL_law 261 = .ok (.invokevirtual 29, 3) := by decide +kernel
theorem dL_law_264 : decode cL_law 264 = .ok (.aload_n 2, 1) := by decide +kernel
theorem dL_law_265 : decode cL_law 265 = .ok (.aload_n 0, 1) := by decide +kernel
theorem dL_law_266 : decode cL_law 266 = .ok (.iload 4, 2) := by decide +kernel
theorem dL_law_268 : decode cL_law 268 = .ok (.iconst 1, 1) := by decide +kernel
theorem dL_law_269 : decode cL_law 269 = .ok (.iadd, 1) := by decide +kernel
theorem dL_law_270 : decode cL_law 270 = .ok (.iaload, 1) := by decide +kernel
theorem dL_law_271 : decode cL_law 271 = .ok (.invokevirtual 33, 3) := by decide +kernel
theorem dL_law_274 : decode cL_law 274 = .ok (.if_icmp .eq 768, 3) := by decide +kernel
theorem dL_law_279 : decode cL_law 279 = .ok (.aload_n 1, 1) := by decide +kernel
theorem dL_law_280 : decode cL_law 280 = .ok (.aload_n 0, 1) := by decide +kernel
theorem dL_law_281 : decode cL_law 281 = .ok (.iload 4, 2) := by decide +kernel
theorem dL_law_283 : decode cL_law 283 = .ok (.iconst 1, 1) := by decide +kernel
theorem dL_law_284 : decode cL_law 284 = .ok (.iadd, 1) := by decide +kernel
theorem dL_law_285 : decode cL_law 285 = .ok (.iaload, 1) := by decide +kernel
theorem dL_law_286 : decode cL_law 286 = .ok (.aload_n 0, 1) := by decide +kernel
theorem dL_law_287 : decode cL_law 287 = .ok (.iload 4, 2) := by decide +kernel
theorem dL_law_289 : decode cL_law 289 = .ok (.iconst 2, 1) := by decide +kernel
theorem dL_law_290 : decode cL_law 290 = .ok (.iadd, 1) := by decide +kernel
theorem dL_law_291 : decode cL_law 291 = .ok (.iaload, 1) := by decide +kernel
theorem dL_law_292 : decode cL_law 292 = .ok (.aload_n 0, 1) := by decide +kernel
theorem dL_law_293 : decode cL_law 293 = .ok (.iload 4, 2) := by decide +kernel
theorem dL_law_295 : decode cL_law 295 = .ok (.iconst 3, 1) := by decide +kernel
theorem dL_law_296 : decode cL_law 296 = .ok (.iadd, 1) := by decide +kernel
theorem dL_law_297 : decode cL_law 297 = .ok (.iaload, 1) := by decide +kernel
theorem dL_law_298 : decode cL_law 298 = .ok (.invokevirtual 34, 3) := by decide +kernel
theorem dL_law_301 : decode cL_law 301 = .ok (.aload_n 2, 1) := by decide +kernel
theorem dL_law_302 : decode cL_law 302 = .ok (.aload_n 0, 1) := by decide +kernel
theorem dL_law_303 : decode cL_law 303 = .ok (.iload 4, 2) := by decide +kernel
theorem dL_law_305 : decode cL_law 305 = .ok (.iconst 1, 1) := by decide +kernel
theorem dL_law_306 : decode cL_law 306 = .ok (.iadd, 1) := by decide +kernel
theorem dL_law_307 : decode cL_law 307 = .ok (.iaload, 1) := by decide +kernel
theorem dL_law_308 : decode cL_law 308 = .ok (.aload_n 0, 1) := by decide +kernel
theorem dL_law_309 : decode cL_law 309 = .ok (.iload 4, 2) := by decide +kernel
theorem dL_law_311 : decode cL_law 311 = .ok (.iconst 2, 1) := by decide +kernel
theorem dL_law_312 : decode cL_law 312 = .ok (.iadd, 1) := by decide +kernel
theorem dL_law_313 : decode cL_law 313 = .ok (.iaload, 1) := by decide +kernel
theorem dL_law_314 : decode cL_law 314 = .ok (.aload_n 0, 1) := by decide +kernel
theorem dL_law_315 : decode cL_law 315 = .ok (.iload 4, 2) := by decide +kernel
theorem dL_law_317 : decode cL_law 317 = .ok (.iconst 3, 1) := by decide +kernel
theorem dL_law_318 : decode cL_law 318 = .ok (.iadd, 1) := by decide +kernel
theorem dL_law_319 : decode cL_law 319 = .ok (.iaload, 1) := by decide +kernel
theorem dL_law_320 : decode cL_law 320 = .ok (.invokevirtual 38, 3) := by decide +kernel
theorem dL_law_323 : decode cL_law 323 = .ok (.if_icmp .eq 719, 3) := by decide +kernel
theorem dL_law_328 : decode cL_law 328 = .ok (.aload_n 1, 1) := by decide +kernel
theorem dL_law_329 : decode cL_law 329 = .ok (.aload_n 0, 1) := by decide +kernel
theorem dL_law_330 : decode cL_law 330 = .ok (.iload 4, 2) := by decide +kernel
theorem dL_law_332 : decode cL_law 332 = .ok (.iconst 1, 1) := by decide +kernel
theorem dL_law_333 : decode cL_law 333 = .ok (.iadd, 1) := by decide +kernel
theorem dL_law_334 : decode cL_law 334 = .ok (.iaload, 1) := by decide +kernel
theorem dL_law_335 : decode cL_law 335 = .ok (.aload_n 0, 1) := by decide +kernel
theorem dL_law_336 : decode cL_law 336 = .ok (.iload 4, 2) := by decide +kernel
theorem dL_law_338 : decode cL_law 338 = .ok (.iconst 2, 1) := by decide +kernel
theorem dL_law_339 : decode cL_law 339 = .ok (.iadd, 1) := by decide +kernel
theorem dL_law_340 : decode cL_law 340 = .ok (.iaload, 1) := by decide +kernel
theorem dL_law_341 : decode cL_law 341 = .ok (.invokevirtual 39, 3) := by decide +kernel
theorem dL_law_344 : decode cL_law 344 = .ok (.aload_n 2, 1) := by decide +kernel
theorem dL_law_345 : decode cL_law 345 = .ok (.aload_n 0, 1) := by decide +kernel
theorem dL_law_346 : decode cL_law 346 = .ok (.iload 4, 2) := by decide +kernel
theorem dL_law_348 : decode cL_law 348 = .ok (.iconst 1, 1) := by decide +kernel
theorem dL_law_349 : decode cL_law 349 = .ok (.iadd, 1) := by decide +kernel
theorem dL_law_350 : decode cL_law 350 = .ok (.iaload, 1) := by decide +kernel
theorem dL_law_351 : decode cL_law 351 = .ok (.aload_n 0, 1) := by decide +kernel
theorem dL_law_352 : decode cL_law 352 = .ok (.iload 4, 2) := by decide +kernel
theorem dL_law_354 : decode cL_law 354 = .ok (.iconst 2, 1) := by decide +kernel
theorem dL_law_355 : decode cL_law 355 = .ok (.iadd, 1) := by decide +kernel
theorem dL_law_356 : decode cL_law 356 = .ok (.iaload, 1) := by decide +kernel
theorem dL_law_357 : decode cL_law 357 = .ok (.invokevirtual 42, 3) := by decide +kernel
theorem dL_law_360 : decode cL_law 360 = .ok (.if_icmp .eq 682, 3) := by decide +kernel
theorem dL_law_365 : decode cL_law 365 = .ok (.aload_n 1, 1) := by decide +kernel
theorem dL_law_366 : decode cL_law 366 = .ok (.aload_n 0, 1) := by decide +kernel
theorem dL_law_367 : decode cL_law 367 = .ok (.iload 4, 2) := by decide +kernel
theorem dL_law_369 : decode cL_law 369 = .ok (.iconst 1, 1) := by decide +kernel
theorem dL_law_370 : decode cL_law 370 = .ok (.iadd, 1) := by decide +kernel
theorem dL_law_371 : decode cL_law 371 = .ok (.iaload, 1) := by decide +kernel
theorem dL_law_372 : decode cL_law 372 = .ok (.aload_n 0, 1) := by decide +kernel
theorem dL_law_373 : decode cL_law 373 = .ok (.iload 4, 2) := by decide +kernel
theorem dL_law_375 : decode cL_law 375 = .ok (.iconst 2, 1) := by decide +kernel
theorem dL_law_376 : decode cL_law 376 = .ok (.iadd, 1) := by decide +kernel
theorem dL_law_377 : decode cL_law 377 = .ok (.iaload, 1) := by decide +kernel
theorem dL_law_378 : decode cL_law 378 = .ok (.aload_n 0, 1) := by decide +kernel
theorem dL_law_379 : decode cL_law 379 = .ok (.iload 4, 2) := by decide +kernel
theorem dL_law_381 : decode cL_law 381 = .ok (.iconst 3, 1) := by decide +kernel
theorem dL_law_382 : decode cL_law 382 = .ok (.iadd, 1) := by decide +kernel
theorem dL_law_383 : decode cL_law 383 = .ok (.iaload, 1) := by decide +kernel
theorem dL_law_384 : decode cL_law 384 = .ok (.invokevirtual 43, 3) := by decide +kernel
theorem dL_law_387 : decode cL_law 387 = .ok (.aload_n 2, 1) := by decide +kernel
theorem dL_law_388 : decode cL_law 388 = .ok (.aload_n 0, 1) := by decide +kernel
theorem dL_law_389 : decode cL_law 389 = .ok (.iload 4, 2) := by decide +kernel
theorem dL_law_391 : decode cL_law 391 = .ok (.iconst 1, 1) := by decide +kernel
theorem dL_law_392 : decode cL_law 392 = .ok (.iadd, 1) := by decide +kernel
theorem dL_law_393 : decode cL_law 393 = .ok (.iaload, 1) := by decide +kernel
theorem dL_law_394 : decode cL_law 394 = .ok (.aload_n 0, 1) := by decide +kernel
theorem dL_law_395 : decode cL_law 395 = .ok (.iload 4, 2) := by decide +kernel
theorem dL_law_397 : decode cL_law 397 = .ok (.iconst 2, 1) := by decide +kernel
theorem dL_law_398 : decode cL_law 398 = .ok (.iadd, 1) := by decide +kernel
theorem dL_law_399 : decode cL_law 399 = .ok (.iaload, 1) := by decide +kernel
theorem dL_law_400 : decode cL_law 400 = .ok (.aload_n 0, 1) := by decide +kernel
theorem dL_law_401 : decode cL_law 401 = .ok (.iload 4, 2) := by decide +kernel
theorem dL_law_403 : decode cL_law 403 = .ok (.iconst 3, 1) := by decide +kernel
theorem dL_law_404 : decode cL_law 404 = .ok (.iadd, 1) := by decide +kernel
theorem dL_law_405 : decode cL_law 405 = .ok (.iaload, 1) := by decide +kernel
theorem dL_law_406 : decode cL_law 406 = .ok (.invokevirtual 47, 3) := by decide +kernel
theorem dL_law_409 : decode cL_law 409 = .ok (.if_icmp .eq 633, 3) := by decide +kernel
theorem dL_law_414 : decode cL_law 414 = .ok (.aload_n 1, 1) := by decide +kernel
theorem dL_law_415 : decode cL_law 415 = .ok (.aload_n 0, 1) := by decide +kernel
theorem dL_law_416 : decode cL_law 416 = .ok (.iload 4, 2) := by decide +kernel
theorem dL_law_418 : decode cL_law 418 = .ok (.iconst 1, 1) := by decide +kernel
theorem dL_law_419 : decode cL_law 419 = .ok (.iadd, 1) := by decide +kernel
theorem dL_law_420 : decode cL_law 420 = .ok (.iaload, 1) := by decide +kernel
theorem dL_law_421 : decode cL_law 421 = .ok (.invokevirtual 48, 3) := by decide +kernel
theorem dL_law_424 : decode cL_law 424 = .ok (.aload_n 2, 1) := by decide +kernel
theorem dL_law_425 : decode cL_law 425 = .ok (.aload_n 0, 1) := by decide +kernel
theorem dL_law_426 : decode cL_law 426 = .ok (.iload 4, 2) := by decide +kernel
theorem dL_law_428 : decode cL_law 428 = .ok (.iconst 1, 1) := by decide +kernel
theorem dL_law_429 : decode cL_law 429 = .ok (.iadd, 1) := by decide +kernel
theorem dL_law_430 : decode cL_law 430 = .ok (.iaload, 1) := by decide +kernel
theorem dL_law_431 : decode cL_law 431 = .ok (.invokevirtual 51, 3) := by decide +kernel
theorem dL_law_434 : decode cL_law 434 = .ok (.if_icmp .eq 608, 3) := by decide +kernel
theorem dL_law_439 : decode cL_law 439 = .ok (.aload_n 1, 1) := by decide +kernel
theorem dL_law_440 : decode cL_law 440 = .ok (.aload_n 0, 1) := by decide +kernel
theorem dL_law_441 : decode cL_law 441 = .ok (.iload 4, 2) := by decide +kernel
theorem dL_law_443 : decode cL_law 443 = .ok (.iconst 1, 1) := by decide +kernel
theorem dL_law_444 : decode cL_law 444 = .ok (.iadd, 1) := by decide +kernel
theorem dL_law_445 : decode cL_law 445 = .ok (.iaload, 1) := by decide +kernel
theorem dL_law_446 : decode cL_law 446 = .ok (.aload_n 0, 1) := by decide +kernel
theorem dL_law_447 : decode cL_law 447 = .ok (.iload 4, 2) := by decide +kernel
theorem dL_law_449 : decode cL_law 449 = .ok (.iconst 2, 1) := by decide +kernel
theorem dL_law_450 : decode cL_law 450 = .ok (.iadd, 1) := by decide +kernel
theorem dL_law_451 : decode cL_law 451 = .ok (.iaload, 1) := by decide +kernel
theorem dL_law_452 : decode cL_law 452 = .ok (.aload_n 0, 1) := by decide +kernel
theorem dL_law_453 : decode cL_law 453 = .ok (.iload 4, 2) := by decide +kernel
theorem dL_law_455 : decode cL_law 455 = .ok (.iconst 3, 1) := by decide +kernel
theorem dL_law_456 : decode cL_law 456 = .ok (.iadd, 1) := by decide +kernel
theorem dL_law_457 : decode cL_law 457 = .ok (.iaload, 1) := by decide +kernel
theorem dL_law_458 : decode cL_law 458 = .ok (.aload_n 0, 1) := by decide +kernel
theorem dL_law_459 : decode cL_law 459 = .ok (.iload 4, 2) := by decide +kernel
theorem dL_law_461 : decode cL_law 461 = .ok (.iconst 4, 1) := by decide +kernel
theorem dL_law_462 : decode cL_law 462 = .ok (.iadd, 1) := by decide +kernel
theorem dL_law_463 : decode cL_law 463 = .ok (.iaload, 1) := by decide +kernel
theorem dL_law_464 : decode cL_law 464 = .ok (.invokevirtual 52, 3) := by decide +kernel
theorem dL_law_467 : decode cL_law 467 = .ok (.aload_n 2, 1) := by decide +kernel
theorem dL_law_468 : decode cL_law 468 = .ok (.aload_n 0, 1) := by decide +kernel
theorem dL_law_469 : decode cL_law 469 = .ok (.iload 4, 2) := by decide +kernel
theorem dL_law_471 : decode cL_law 471 = .ok (.iconst 1, 1) := by decide +kernel
theorem dL_law_472 : decode cL_law 472 = .ok (.iadd, 1) := by decide +kernel
theorem dL_law_473 : decode cL_law 473 = .ok (.iaload, 1) := by decide +kernel
theorem dL_law_474 : decode cL_law 474 = .ok (.aload_n 0, 1) := by decide +kernel
theorem dL_law_475 : decode cL_law 475 = .ok (.iload 4, 2) := by decide +kernel
theorem dL_law_477 : decode cL_law 477 = .ok (.iconst 2, 1) := by decide +kernel
theorem dL_law_478 : decode cL_law 478 = .ok (.iadd, 1) := by decide +kernel
theorem dL_law_479 : decode cL_law 479 = .ok (.iaload, 1) := by decide +kernel
theorem dL_law_480 : decode cL_law 480 = .ok (.aload_n 0, 1) := by decide +kernel
theorem dL_law_481 : decode cL_law 481 = .ok (.iload 4, 2) := by decide +kernel
theorem dL_law_483 : decode cL_law 483 = .ok (.iconst 3, 1) := by decide +kernel
theorem dL_law_484 : decode cL_law 484 = .ok (.iadd, 1) := by decide +kernel
theorem dL_law_485 : decode cL_law 485 = .ok (.iaload, 1) := by decide +kernel
theorem dL_law_486 : decode cL_law 486 = .ok (.aload_n 0, 1) := by decide +kernel
theorem dL_law_487 : decode cL_law 487 = .ok (.iload 4, 2) := by decide +kernel
theorem dL_law_489 : decode cL_law 489 = .ok (.iconst 4, 1) := by decide +kernel
theorem dL_law_490 : decode cL_law 490 = .ok (.iadd, 1) := by decide +kernel
theorem dL_law_491 : decode cL_law 491 = .ok (.iaload, 1) := by decide +kernel
theorem dL_law_492 : decode cL_law 492 = .ok (.invokevirtual 56, 3) := by decide +kernel
theorem dL_law_495 : decode cL_law 495 = .ok (.if_icmp .eq 547, 3) := by decide +kernel
theorem dL_law_500 : decode cL_law 500 = .ok (.aload_n 1, 1) := by decide +kernel
theorem dL_law_501 : decode cL_law 501 = .ok (.aload_n 0, 1) := by decide +kernel
theorem dL_law_502 : decode cL_law 502 = .ok (.iload 4, 2) := by decide +kernel
theorem dL_law_504 : decode cL_law 504 = .ok (.iconst 1, 1) := by decide +kernel
theorem dL_law_505 : decode cL_law 505 = .ok (.iadd, 1) := by decide +kernel
theorem dL_law_506 : decode cL_law 506 = .ok (.iaload, 1) := by decide +kernel
theorem dL_law_507 : decode cL_law 507 = .ok (.aload_n 0, 1) := by decide +kernel
theorem dL_law_508 : decode cL_law 508 = .ok (.iload 4, 2) := by decide +kernel
theorem dL_law_510 : decode cL_law 510 = .ok (.iconst 2, 1) := by decide +kernel
theorem dL_law_511 : decode cL_law 511 = .ok (.iadd, 1) := by decide +kernel
theorem dL_law_512 : decode cL_law 512 = .ok (.iaload, 1) := by decide +kernel
theorem dL_law_513 : decode cL_law 513 = .ok (.invokevirtual 57, 3) := by decide +kernel
theorem dL_law_516 : decode cL_law 516 = .ok (.aload_n 2, 1) := by decide +kernel
theorem dL_law_517 : decode cL_law 517 = .ok (.aload_n 0, 1) := by decide +kernel
theorem dL_law_518 : decode cL_law 518 = .ok (.iload 4, 2) := by decide +kernel
theorem dL_law_520 : decode cL_law 520 = .ok (.iconst 1, 1) := by decide +kernel
theorem dL_law_521 : decode cL_law 521 = .ok (.iadd, 1) := by decide +kernel
theorem dL_law_522 : decode cL_law 522 = .ok (.iaload, 1) := by decide +kernel
theorem dL_law_523 : decode cL_law 523 = .ok (.aload_n 0, 1) := by decide +kernel
theorem dL_law_524 : decode cL_law 524 = .ok (.iload 4, 2) := by decide +kernel
theorem dL_law_526 : decode cL_law 526 = .ok (.iconst 2, 1) := by decide +kernel
theorem dL_law_527 : decode cL_law 527 = .ok (.iadd, 1) := by decide +kernel
theorem dL_law_528 : decode cL_law 528 = .ok (.iaload, 1) := by decide +kernel
theorem dL_law_529 : decode cL_law 529 = .ok (.invokevirtual 61, 3) := by decide +kernel
theorem dL_law_532 : decode cL_law 532 = .ok (.if_icmp .eq 510, 3) := by decide +kernel
theorem dL_law_537 : decode cL_law 537 = .ok (.aload_n 1, 1) := by decide +kernel
theorem dL_law_538 : decode cL_law 538 = .ok (.aload_n 0, 1) := by decide +kernel
theorem dL_law_539 : decode cL_law 539 = .ok (.iload 4, 2) := by decide +kernel
theorem dL_law_541 : decode cL_law 541 = .ok (.iconst 1, 1) := by decide +kernel
theorem dL_law_542 : decode cL_law 542 = .ok (.iadd, 1) := by decide +kernel
theorem dL_law_543 : decode cL_law 543 = .ok (.iaload, 1) := by decide +kernel
theorem dL_law_544 : decode cL_law 544 = .ok (.aload_n 0, 1) := by decide +kernel
theorem dL_law_545 : decode cL_law 545 = .ok (.iload 4, 2) := by decide +kernel
theorem dL_law_547 : decode cL_law 547 = .ok (.iconst 2, 1) := by decide +kernel
theorem dL_law_548 : decode cL_law 548 = .ok (.iadd, 1) := by decide +kernel
theorem dL_law_549 : decode cL_law 549 = .ok (.iaload, 1) := by decide +kernel
theorem dL_law_550 : decode cL_law 550 = .ok (.aload_n 0, 1) := by decide +kernel
theorem dL_law_551 : decode cL_law 551 = .ok (.iload 4, 2) := by decide +kernel
theorem dL_law_553 : decode cL_law 553 = .ok (.iconst 3, 1) := by decide +kernel
theorem dL_law_554 : decode cL_law 554 = .ok (.iadd, 1) := by decide +kernel
theorem dL_law_555 : decode cL_law 555 = .ok (.iaload, 1) := by decide +kernel
theorem dL_law_556 : decode cL_law 556 = .ok (.aload_n 0, 1) := by decide +kernel
theorem dL_law_557 : decode cL_law 557 = .ok (.iload 4, 2) := by decide +kernel
theorem dL_law_559 : decode cL_law 559 = .ok (.iconst 4, 1) := by decide +kernel
theorem dL_law_560 : decode cL_law 560 = .ok (.iadd, 1) := by decide +kernel
theorem dL_law_561 : decode cL_law 561 = .ok (.iaload, 1) := by decide +kernel
theorem dL_law_562 : decode cL_law 562 = .ok (.aload_n 0, 1) := by decide +kernel
theorem dL_law_563 : decode cL_law 563 = .ok (.iload 4, 2) := by decide +kernel
theorem dL_law_565 : decode cL_law 565 = .ok (.iconst 5, 1) := by decide +kernel
theorem dL_law_566 : decode cL_law 566 = .ok (.iadd, 1) := by decide +kernel
theorem dL_law_567 : decode cL_law 567 = .ok (.iaload, 1) := by decide +kernel
theorem dL_law_568 : decode cL_law 568 = .ok (.aload_n 0, 1) := by decide +kernel
theorem dL_law_569 : decode cL_law 569 = .ok (.iload 4, 2) := by decide +kernel
theorem dL_law_571 : decode cL_law 571 = .ok (.bipush 6, 2) := by decide +kernel
theorem dL_law_573 : decode cL_law 573 = .ok (.iadd, 1) := by decide +kernel
theorem dL_law_574 : decode cL_law 574 = .ok (.iaload, 1) := by decide +kernel
theorem dL_law_575 : decode cL_law 575 = .ok (.invokevirtual 62, 3) := by decide +kernel
theorem dL_law_578 : decode cL_law 578 = .ok (.aload_n 2, 1) := by decide +kernel
theorem dL_law_579 : decode cL_law 579 = .ok (.aload_n 0, 1) := by decide +kernel
theorem dL_law_580 : decode cL_law 580 = .ok (.iload 4, 2) := by decide +kernel
theorem dL_law_582 : decode cL_law 582 = .ok (.iconst 1, 1) := by decide +kernel
theorem dL_law_583 : decode cL_law 583 = .ok (.iadd, 1) := by decide +kernel
theorem dL_law_584 : decode cL_law 584 = .ok (.iaload, 1) := by decide +kernel
theorem dL_law_585 : decode cL_law 585 = .ok (.aload_n 0, 1) := by decide +kernel
theorem dL_law_586 : decode cL_law 586 = .ok (.iload 4, 2) := by decide +kernel
theorem dL_law_588 : decode cL_law 588 = .ok (.iconst 2, 1) := by decide +kernel
theorem dL_law_589 : decode cL_law 589 = .ok (.iadd, 1) := by decide +kernel
theorem dL_law_590 : decode cL_law 590 = .ok (.iaload, 1) := by decide +kernel
theorem dL_law_591 : decode cL_law 591 = .ok (.aload_n 0, 1) := by decide +kernel
theorem dL_law_592 : decode cL_law 592 = .ok (.iload 4, 2) := by decide +kernel
theorem dL_law_594 : decode cL_law 594 = .ok (.iconst 3, 1) := by decide +kernel
theorem dL_law_595 : decode cL_law 595 = .ok (.iadd, 1) := by decide +kernel
theorem dL_law_596 : decode cL_law 596 = .ok (.iaload, 1) := by decide +kernel
theorem dL_law_597 : decode cL_law 597 = .ok (.aload_n 0, 1) := by decide +kernel
theorem dL_law_598 : decode cL_law 598 = .ok (.iload 4, 2) := by decide +kernel
theorem dL_law_600 : decode cL_law 600 = .ok (.iconst 4, 1) := by decide +kernel
theorem dL_law_601 : decode cL_law 601 = .ok (.iadd, 1) := by decide +kernel
theorem dL_law_602 : decode cL_law 602 = .ok (.iaload, 1) := by decide +kernel
theorem dL_law_603 : decode cL_law 603 = .ok (.aload_n 0, 1) := by decide +kernel
theorem dL_law_604 : decode cL_law 604 = .ok (.iload 4, 2) := by decide +kernel
theorem dL_law_606 : decode cL_law 606 = .ok (.iconst 5, 1) := by decide +kernel
theorem dL_law_607 : decode cL_law 607 = .ok (.iadd, 1) := by decide +kernel
theorem dL_law_608 : decode cL_law 608 = .ok (.iaload, 1) := by decide +kernel
theorem dL_law_609 : decode cL_law 609 = .ok (.aload_n 0, 1) := by decide +kernel
theorem dL_law_610 : decode cL_law 610 = .ok (.iload 4, 2) := by decide +kernel
theorem dL_law_612 : decode cL_law 612 = .ok (.bipush 6, 2) := by decide +kernel
theorem dL_law_614 : decode cL_law 614 = .ok (.iadd, 1) := by decide +kernel
theorem dL_law_615 : decode cL_law 615 = .ok (.iaload, 1) := by decide +kernel
theorem dL_law_616 : decode cL_law 616 = .ok (.invokevirtual 66, 3) := by decide +kernel
theorem dL_law_619 : decode cL_law 619 = .ok (.if_icmp .eq 423, 3) := by decide +kernel
theorem dL_law_624 : decode cL_law 624 = .ok (.aload_n 1, 1) := by decide +kernel
theorem dL_law_625 : decode cL_law 625 = .ok (.invokevirtual 67, 3) := by decide +kernel
theorem dL_law_628 : decode cL_law 628 = .ok (.aload_n 2, 1) := by decide +kernel
theorem dL_law_629 : decode cL_law 629 = .ok (.invokevirtual 71, 3) := by decide +kernel
theorem dL_law_632 : decode cL_law 632 = .ok (.if_icmp .eq 410, 3) := by decide +kernel
theorem dL_law_637 : decode cL_law 637 = .ok (.aload_n 1, 1) := by decide +kernel
theorem dL_law_638 : decode cL_law 638 = .ok (.aload_n 0, 1) := by decide +kernel
theorem dL_law_639 : decode cL_law 639 = .ok (.iload 4, 2) := by decide +kernel
theorem dL_law_641 : decode cL_law 641 = .ok (.iconst 1, 1) := by decide +kernel
theorem dL_law_642 : decode cL_law 642 = .ok (.iadd, 1) := by decide +kernel
theorem dL_law_643 : decode cL_law 643 = .ok (.iaload, 1) := by decide +kernel
theorem dL_law_644 : decode cL_law 644 = .ok (.invokevirtual 72, 3) := by decide +kernel
theorem dL_law_647 : decode cL_law 647 = .ok (.aload_n 2, 1) := by decide +kernel
theorem dL_law_648 : decode cL_law 648 = .ok (.aload_n 0, 1) := by decide +kernel
theorem dL_law_649 : decode cL_law 649 = .ok (.iload 4, 2) := by decide +kernel
theorem dL_law_651 : decode cL_law 651 = .ok (.iconst 1, 1) := by decide +kernel
theorem dL_law_652 : decode cL_law 652 = .ok (.iadd, 1) := by decide +kernel
theorem dL_law_653 : decode cL_law 653 = .ok (.iaload, 1) := by decide +kernel
theorem dL_law_654 : decode cL_law 654 = .ok (.invokevirtual 75, 3) := by decide +kernel
theorem dL_law_657 : decode cL_law 657 = .ok (.if_icmp .eq 385, 3) := by decide +kernel
theorem dL_law_662 : decode cL_law 662 = .ok (.aload_n 1, 1) := by decide +kernel
theorem dL_law_663 : decode cL_law 663 = .ok (.aload_n 0, 1) := by decide +kernel
theorem dL_law_664 : decode cL_law 664 = .ok (.iload 4, 2) := by decide +kernel
theorem dL_law_666 : decode cL_law 666 = .ok (.iconst 1, 1) := by decide +kernel
theorem dL_law_667 : decode cL_law 667 = .ok (.iadd, 1) := by decide +kernel
theorem dL_law_668 : decode cL_law 668 = .ok (.iaload, 1) := by decide +kernel
theorem dL_law_669 : decode cL_law 669 = .ok (.invokevirtual 76, 3) := by decide +kernel
theorem dL_law_672 : decode cL_law 672 = .ok (.aload_n 2, 1) := by decide +kernel
theorem dL_law_673 : decode cL_law 673 = .ok (.aload_n 0, 1) := by decide +kernel
theorem dL_law_674 : decode cL_law 674 = .ok (.iload 4, 2) := by decide +kernel
theorem dL_law_676 : decode cL_law 676 = .ok (.iconst 1, 1) := by decide +kernel
theorem dL_law_677 : decode cL_law 677 = .ok (.iadd, 1) := by decide +kernel
theorem dL_law_678 : decode cL_law 678 = .ok (.iaload, 1) := by decide +kernel
theorem dL_law_679 : decode cL_law 679 = .ok (.invokevirtual 79, 3) := by decide +kernel
theorem dL_law_682 : decode cL_law 682 = .ok (.if_icmp .eq 360, 3) := by decide +kernel
theorem dL_law_712 : decode cL_law 712 = .ok (.aload_n 1, 1) := by decide +kernel
theorem dL_law_713 : decode cL_law 713 = .ok (.invokevirtual 84, 3) := by decide +kernel
theorem dL_law_716 : decode cL_law 716 = .ok (.aload_n 2, 1) := by decide +kernel
theorem dL_law_717 : decode cL_law 717 = .ok (.invokevirtual 88, 3) := by decide +kernel
theorem dL_law_720 : decode cL_law 720 = .ok (.if_icmp .eq 322, 3) := by decide +kernel
theorem dL_law_725 : decode cL_law 725 = .ok (.aload_n 1, 1) := by decide +kernel
theorem dL_law_726 : decode cL_law 726 = .ok (.aload_n 0, 1) := by decide +kernel
theorem dL_law_727 : decode cL_law 727 = .ok (.iload 4, 2) := by decide +kernel
theorem dL_law_729 : decode cL_law 729 = .ok (.iconst 1, 1) := by decide +kernel
theorem dL_law_730 : decode cL_law 730 = .ok (.iadd, 1) := by decide +kernel
theorem dL_law_731 : decode cL_law 731 = .ok (.iaload, 1) := by decide +kernel
theorem dL_law_732 : decode cL_law 732 = .ok (.aload_n 0, 1) := by decide +kernel
theorem dL_law_733 : decode cL_law 733 = .ok (.iload 4, 2) := by decide +kernel
theorem dL_law_735 : decode cL_law 735 = .ok (.iconst 2, 1) := by decide +kernel
theorem dL_law_736 : decode cL_law 736 = .ok (.iadd, 1) := by decide +kernel
theorem dL_law_737 : decode cL_law 737 = .ok (.iaload, 1) := by decide +kernel
theorem dL_law_738 : decode cL_law 738 = .ok (.aload_n 0, 1) := by decide +kernel
theorem dL_law_739 : decode cL_law 739 = .ok (.iload 4, 2) := by decide +kernel
theorem dL_law_741 : decode cL_law 741 = .ok (.iconst 3, 1) := by decide +kernel
theorem dL_law_742 : decode cL_law 742 = .ok (.iadd, 1) := by decide +kernel
theorem dL_law_743 : decode cL_law 743 = .ok (.iaload, 1) := by decide +kernel
theorem dL_law_744 : decode cL_law 744 = .ok (.aload_n 0, 1) := by decide +kernel
theorem dL_law_745 : decode cL_law 745 = .ok (.iload 4, 2) := by decide +kernel
theorem dL_law_747 : decode cL_law 747 = .ok (.iconst 4, 1) := by decide +kernel
theorem dL_law_748 : decode cL_law 748 = .ok (.iadd, 1) := by decide +kernel
theorem dL_law_749 : decode cL_law 749 = .ok (.iaload, 1) := by decide +kernel
theorem dL_law_750 : decode cL_law 750 = .ok (.invokevirtual 89, 3) := by decide +kernel
theorem dL_law_753 : decode cL_law 753 = .ok (.aload_n 2, 1) := by decide +kernel
theorem dL_law_754 : decode cL_law 754 = .ok (.aload_n 0, 1) := by decide +kernel
theorem dL_law_755 : decode cL_law 755 = .ok (.iload 4, 2) := by decide +kernel
theorem dL_law_757 : decode cL_law 757 = .ok (.iconst 1, 1) := by decide +kernel
theorem dL_law_758 : decode cL_law 758 = .ok (.iadd, 1) := by decide +kernel
theorem dL_law_759 : decode cL_law 759 = .ok (.iaload, 1) := by decide +kernel
theorem dL_law_760 : decode cL_law 760 = .ok (.aload_n 0, 1) := by decide +kernel
theorem dL_law_761 : decode cL_law 761 = .ok (.iload 4, 2) := by decide +kernel
theorem dL_law_763 : decode cL_law 763 = .ok (.iconst 2, 1) := by decide +kernel
theorem dL_law_764 : decode cL_law 764 = .ok (.iadd, 1) := by decide +kernel
theorem dL_law_765 : decode cL_law 765 = .ok (.iaload, 1) := by decide +kernel
theorem dL_law_766 : decode cL_law 766 = .ok (.aload_n 0, 1) := by decide +kernel
theorem dL_law_767 : decode cL_law 767 = .ok (.iload 4, 2) := by decide +kernel
theorem dL_law_769 : decode cL_law 769 = .ok (.iconst 3, 1) := by decide +kernel
theorem dL_law_770 : decode cL_law 770 = .ok (.iadd, 1) := by decide +kernel
theorem dL_law_771 : decode cL_law 771 = .ok (.iaload, 1) := by decide +kernel
theorem dL_law_772 : decode cL_law 772 = .ok (.aload_n 0, 1) := by decide +kernel
theorem dL_law_773 : decode cL_law 773 = .ok (.iload 4, 2) := by decide +kernel
theorem dL_law_775 : decode cL_law 775 = .ok (.iconst 4, 1) := by decide +kernel
theorem dL_law_776 : decode cL_law 776 = .ok (.iadd, 1) := by decide +kernel
theorem dL_law_777 : decode cL_law 777 = .ok (.iaload, 1) := by decide +kernel
theorem dL_law_778 : decode cL_law 778 = .ok (.invokevirtual 92, 3) := by decide +kernel
theorem dL_law_781 : decode cL_law 781 = .ok (.if_icmp .eq 261, 3) := by decide +kernel
theorem dL_law_786 : decode cL_law 786 = .ok (.aload_n 1, 1) := by decide +kernel
theorem dL_law_787 : decode cL_law 787 = .ok (.invokevirtual 93, 3) := by decide +kernel
theorem dL_law_790 : decode cL_law 790 = .ok (.aload_n 2, 1) := by decide +kernel
theorem dL_law_791 : decode cL_law 791 = .ok (.invokevirtual 96, 3) := by decide +kernel
theorem dL_law_794 : decode cL_law 794 = .ok (.if_icmp .eq 248, 3) := by decide +kernel
theorem dL_law_799 : decode cL_law 799 = .ok (.aload_n 1, 1) := by decide +kernel
theorem dL_law_800 : decode cL_law 800 = .ok (.invokevirtual 97, 3) := by decide +kernel
theorem dL_law_803 : decode cL_law 803 = .ok (.aload_n 2, 1) := by decide +kernel
theorem dL_law_804 : decode cL_law 804 = .ok (.invokevirtual 100, 3) := by decide +kernel
theorem dL_law_807 : decode cL_law 807 = .ok (.if_icmp .eq 235, 3) := by decide +kernel
theorem dL_law_880 : decode cL_law 880 = .ok (.aload_n 1, 1) := by decide +kernel
theorem dL_law_881 : decode cL_law 881 = .ok (.aload_n 0, 1) := by decide +kernel
theorem dL_law_882 : decode cL_law 882 = .ok (.iload 4, 2) := by decide +kernel
theorem dL_law_884 : decode cL_law 884 = .ok (.iconst 1, 1) := by decide +kernel
theorem dL_law_885 : decode cL_law 885 = .ok (.iadd, 1) := by decide +kernel
theorem dL_law_886 : decode cL_law 886 = .ok (.iaload, 1) := by decide +kernel
theorem dL_law_887 : decode cL_law 887 = .ok (.invokevirtual 110, 3) := by decide +kernel
theorem dL_law_890 : decode cL_law 890 = .ok (.aload_n 2, 1) := by decide +kernel
theorem dL_law_891 : decode cL_law 891 = .ok (.aload_n 0, 1) := by decide +kernel
theorem dL_law_892 : decode cL_law 892 = .ok (.iload 4, 2) := by decide +kernel
theorem dL_law_894 : decode cL_law 894 = .ok (.iconst 1, 1) := by decide +kernel
theorem dL_law_895 : decode cL_law 895 = .ok (.iadd, 1) := by decide +kernel
theorem dL_law_896 : decode cL_law 896 = .ok (.iaload, 1) := by decide +kernel
theorem dL_law_897 : decode cL_law 897 = .ok (.invokevirtual 113, 3) := by decide +kernel
theorem dL_law_900 : decode cL_law 900 = .ok (.if_icmp .eq 142, 3) := by decide +kernel
theorem dL_law_905 : decode cL_law 905 = .ok (.aload_n 1, 1) := by decide +kernel
theorem dL_law_906 : decode cL_law 906 = .ok (.aload_n 0, 1) := by decide +kernel
theorem dL_law_907 : decode cL_law 907 = .ok (.iload 4, 2) := by decide +kernel
theorem dL_law_909 : decode cL_law 909 = .ok (.iconst 1, 1) := by decide +kernel
theorem dL_law_910 : decode cL_law 910 = .ok (.iadd, 1) := by decide +kernel
theorem dL_law_911 : decode cL_law 911 = .ok (.iaload, 1) := by decide +kernel
theorem dL_law_912 : decode cL_law 912 = .ok (.aload_n 0, 1) := by decide +kernel
theorem dL_law_913 : decode cL_law 913 = .ok (.iload 4, 2) := by decide +kernel
theorem dL_law_915 : decode cL_law 915 = .ok (.iconst 2, 1) := by decide +kernel
theorem dL_law_916 : decode cL_law 916 = .ok (.iadd, 1) := by decide +kernel
theorem dL_law_917 : decode cL_law 917 = .ok (.iaload, 1) := by decide +kernel
theorem dL_law_918 : decode cL_law 918 = .ok (.invokevirtual 114, 3) := by decide +kernel
theorem dL_law_921 : decode cL_law 921 = .ok (.aload_n 2, 1) := by decide +kernel
theorem dL_law_922 : decode cL_law 922 = .ok (.aload_n 0, 1) := by decide +kernel
theorem dL_law_923 : decode cL_law 923 = .ok (.iload 4, 2) := by decide +kernel
theorem dL_law_925 : decode cL_law 925 = .ok (.iconst 1, 1) := by decide +kernel
theorem dL_law_926 : decode cL_law 926 = .ok (.iadd, 1) := by decide +kernel
theorem dL_law_927 : decode cL_law 927 = .ok (.iaload, 1) := by decide +kernel
theorem dL_law_928 : decode cL_law 928 = .ok (.aload_n 0, 1) := by decide +kernel
theorem dL_law_929 : decode cL_law 929 = .ok (.iload 4, 2) := by decide +kernel
theorem dL_law_931 : decode cL_law 931 = .ok (.iconst 2, 1) := by decide +kernel
theorem dL_law_932 : decode cL_law 932 = .ok (.iadd, 1) := by decide +kernel
theorem dL_law_933 : decode cL_law 933 = .ok (.iaload, 1) := by decide +kernel
theorem dL_law_934 : decode cL_law 934 = .ok (.invokevirtual 117, 3) := by decide +kernel
theorem dL_law_937 : decode cL_law 937 = .ok (.if_icmp .eq 105, 3) := by decide +kernel
theorem dL_law_942 : decode cL_law 942 = .ok (.aload_n 1, 1) := by decide +kernel
theorem dL_law_943 : decode cL_law 943 = .ok (.aload_n 0, 1) := by decide +kernel
theorem dL_law_944 : decode cL_law 944 = .ok (.iload 4, 2) := by decide +kernel
theorem dL_law_946 : decode cL_law 946 = .ok (.iconst 1, 1) := by decide +kernel
theorem dL_law_947 : decode cL_law 947 = .ok (.iadd, 1) := by decide +kernel
theorem dL_law_948 : decode cL_law 948 = .ok (.iaload, 1) := by decide +kernel
theorem dL_law_949 : decode cL_law 949 = .ok (.invokevirtual 118, 3) := by decide +kernel
theorem dL_law_952 : decode cL_law 952 = .ok (.aload_n 2, 1) := by decide +kernel
theorem dL_law_953 : decode cL_law 953 = .ok (.aload_n 0, 1) := by decide +kernel
theorem dL_law_954 : decode cL_law 954 = .ok (.iload 4, 2) := by decide +kernel
theorem dL_law_956 : decode cL_law 956 = .ok (.iconst 1, 1) := by decide +kernel
theorem dL_law_957 : decode cL_law 957 = .ok (.iadd, 1) := by decide +kernel
theorem dL_law_958 : decode cL_law 958 = .ok (.iaload, 1) := by decide +kernel
theorem dL_law_959 : decode cL_law 959 = .ok (.invokevirtual 121, 3) := by decide +kernel
theorem dL_law_962 : decode cL_law 962 = .ok (.if_icmp .eq 80, 3) := by decide +kernel
theorem dL_law_967 : decode cL_law 967 = .ok (.aload_n 1, 1) := by decide +kernel
theorem dL_law_968 : decode cL_law 968 = .ok (.aload_n 0, 1) := by decide +kernel
theorem dL_law_969 : decode cL_law 969 = .ok (.iload 4, 2) := by decide +kernel
theorem dL_law_971 : decode cL_law 971 = .ok (.iconst 1, 1) := by decide +kernel
theorem dL_law_972 : decode cL_law 972 = .ok (.iadd, 1) := by decide +kernel
theorem dL_law_973 : decode cL_law 973 = .ok (.iaload, 1) := by decide +kernel
theorem dL_law_974 : decode cL_law 974 = .ok (.invokevirtual 122, 3) := by decide +kernel
theorem dL_law_977 : decode cL_law 977 = .ok (.aload_n 2, 1) := by decide +kernel
theorem dL_law_978 : decode cL_law 978 = .ok (.aload_n 0, 1) := by decide +kernel
theorem dL_law_979 : decode cL_law 979 = .ok (.iload 4, 2) := by decide +kernel
theorem dL_law_981 : decode cL_law 981 = .ok (.iconst 1, 1) := by decide +kernel
theorem dL_law_982 : decode cL_law 982 = .ok (.iadd, 1) := by decide +kernel
theorem dL_law_983 : decode cL_law 983 = .ok (.iaload, 1) := by decide +kernel
theorem dL_law_984 : decode cL_law 984 = .ok (.invokevirtual 125, 3) := by decide +kernel
theorem dL_law_987 : decode cL_law 987 = .ok (.if_icmp .eq 55, 3) := by decide +kernel
theorem dL_law_992 : decode cL_law 992 = .ok (.aload_n 1, 1) := by decide +kernel
theorem dL_law_993 : decode cL_law 993 = .ok (.aload_n 0, 1) := by decide +kernel
theorem dL_law_994 : decode cL_law 994 = .ok (.iload 4, 2) := by decide +kernel
theorem dL_law_996 : decode cL_law 996 = .ok (.iconst 1, 1) := by decide +kernel
theorem dL_law_997 : decode cL_law 997 = .ok (.iadd, 1) := by decide +kernel
theorem dL_law_998 : decode cL_law 998 = .ok (.iaload, 1) := by decide +kernel
theorem dL_law_999 : decode cL_law 999 = .ok (.invokevirtual 126, 3) := by decide +kernel
theorem dL_law_1002 : decode cL_law 1002 = .ok (.aload_n 2, 1) := by decide +kernel
theorem dL_law_1003 : decode cL_law 1003 = .ok (.aload_n 0, 1) := by decide +kernel
theorem dL_law_1004 : decode cL_law 1004 = .ok (.iload 4, 2) := by decide +kernel
theorem dL_law_1006 : decode cL_law 1006 = .ok (.iconst 1, 1) := by decide +kernel
theorem dL_law_1007 : decode cL_law 1007 = .ok (.iadd, 1) := by decide +kernel
theorem dL_law_1008 : decode cL_law 1008 = .ok (.iaload, 1) := by decide +kernel
theorem dL_law_1009 : decode cL_law 1009 = .ok (.invokevirtual 129, 3) := by decide +kernel
theorem dL_law_1012 : decode cL_law 1012 = .ok (.if_icmp .eq 30, 3) := by decide +kernel
theorem dL_law_1017 : decode cL_law 1017 = .ok (.aload_n 1, 1) := by decide +kernel
theorem dL_law_1018 : decode cL_law 1018 = .ok (.aload_n 0, 1) := by decide +kernel
theorem dL_law_1019 : decode cL_law 1019 = .ok (.iload 4, 2) := by decide +kernel
theorem dL_law_1021 : decode cL_law 1021 = .ok (.iconst 1, 1) := by decide +kernel
theorem dL_law_1022 : decode cL_law 1022 = .ok (.iadd, 1) := by decide +kernel
theorem dL_law_1023 : decode cL_law 1023 = .ok (.iaload, 1) := by decide +kernel
theorem dL_law_1024 : decode cL_law 1024 = .ok (.invokevirtual 130, 3) := by decide +kernel
theorem dL_law_1027 : decode cL_law 1027 = .ok (.aload_n 2, 1) := by decide +kernel
theorem dL_law_1028 : decode cL_law 1028 = .ok (.aload_n 0, 1) := by decide +kernel
theorem dL_law_1029 : decode cL_law 1029 = .ok (.iload 4, 2) := by decide +kernel
theorem dL_law_1031 : decode cL_law 1031 = .ok (.iconst 1, 1) := by decide +kernel
theorem dL_law_1032 : decode cL_law 1032 = .ok (.iadd, 1) := by decide +kernel
theorem dL_law_1033 : decode cL_law 1033 = .ok (.iaload, 1) := by decide +kernel
theorem dL_law_1034 : decode cL_law 1034 = .ok (.invokevirtual 133, 3) := by decide +kernel
theorem dL_law_1037 : decode cL_law 1037 = .ok (.if_icmp .eq 5, 3) := by decide +kernel
theorem dL_law_1042 : decode cL_law 1042 = .ok (.iinc 4 7, 3) := by decide +kernel
theorem dL_law_1045 : decode cL_law 1045 = .ok (.goto (-1022), 3) := by decide +kernel
theorem dL_law_1048 : decode cL_law 1048 = .ok (.iconst 1, 1) := by decide +kernel
theorem dL_law_1049 : decode cL_law 1049 = .ok (.ireturn, 1) := by decide +kernel
set_option maxHeartbeats 4000000 in
set_option maxRecDepth 100000 in
theorem law_0 {p : Program} {e : Env} {s : State} {m : MethodId} {below : List Frame} {meth : Method} {c : Code} (l : Launch) {b L : Nat} {xs : Nat → Int32} (hL7 : L = 7) (C0 : lw_At p s m meth c b L xs) (dC : Nat → ClassId) (dI : Nat → Nat → Nat) (A : Nat → Prop) (hAe : A = fun q => s.heap.size ≤ q) (yO : Nat) (xX : Nat) (xT : Nat) (xW : Nat) (xR : Nat) (xM : Nat) (xS : Nat) (cT : ClassId) (yM : Nat) (yT : Nat) (yF : Nat) (vq5 : Value) (vq9 : Value) (vq10 : Value) (vq11 : Value) (vq12 : Value) (vq13 : Value) (vq14 : Value) (vq15 : Value) (vq16 : Value) (vq17 : Value) (vq18 : Value) (yC : Nat) (vq20 : Value) (vq21 : Value) (vq22 : Value) (vq23 : Value) (vq24 : Value) (vq25 : Value) (vq26 : Value) (vq27 : Value) (vq28 : Value) (vq29 : Value) (vq30 : Value) (vq31 : Value) (yL : Nat) (yD : Nat) (yB : Nat) (vq50 : Value) (vq51 : Value) (vq52 : Value) (vq53 : Value) (vq54 : Value) (vq55 : Value) (vq56 : Value) (vq57 : Value) (vq64 : Value) (vq65 : Value) (vq68 : Value) (vq69 : Value) (vq70 : Value) (vq71 : Value) (vq72 : Value) (vq73 : Value) (vq74 : Value) (vq75 : Value) (vq76 : Value) (vq77 : Value) (vq78 : Value) (vq79 : Value) (vq80 : Value) (vq81 : Value) (vq82 : Value) (vq83 : Value) (vq88 : Value) (vq90 : Value) (vq91 : Value) (vq92 : Value) (vq93 : Value) (vq94 : Value) (kyT : ClassId) (H : Heap) (locs : List Loc) (hK : va_K (dC, dI) vwCl [(cT, .int), (kyT, .int)] s) (hP : va_P (dC, dI) vwCl [(xX, .inr (11, [.ref xT, .int 0, .ref xW, .ref xR, .ref xM, .ref xS, .int (-1), .int 0, .int (-1)])), (xT, .inl (cT, 340, .inl (fun _ => 0))), (yM, .inr (12, [.int 0, .ref yT, .int 0, .int 0, .ref yF, vq5, .int 0, .int 0, .int 0, vq9, vq10, vq11, vq12, vq13, vq14, vq15, vq16, vq17, vq18, .ref yC, vq20, vq21, vq22, vq23, vq24, vq25, vq26, vq27, vq28, vq29, vq30, vq31, .int 0, .int 0, .int 0, .int 0, .int 0, .int 0, .int 0, .int 0, .int 0, .int 0, .int 0, .int 0, .int 0, .int 0, .long 0, .ref yL, .ref yD, .ref yB, vq50, vq51, vq52, vq53, vq54, vq55, vq56, vq57, .int 0, .int 0, .int 0, .int 0, .int 0, .int 0, vq64, vq65, .int (-1), .int (-1), vq68, vq69, vq70, vq71, vq72, vq73, vq74, vq75, vq76, vq77, vq78, vq79, vq80, vq81, vq82, vq83, .int 0, .int 0, .int (-1), .int 0, vq88, .int 0, vq90, vq91, vq92, vq93, vq94, .int 0])), (yT, .inl (kyT, 340, .inl (fun _ => 0)))] H) (hD : va_D A [(xX, .inr (11, [.ref xT, .int 0, .ref xW, .ref xR, .ref xM, .ref xS, .int (-1), .int 0, .int (-1)])), (xT, .inl (cT, 340, .inl (fun _ => 0))), (yM, .inr (12, [.int 0, .ref yT, .int 0, .int 0, .ref yF, vq5, .int 0, .int 0, .int 0, vq9, vq10, vq11, vq12, vq13, vq14, vq15, vq16, vq17, vq18, .ref yC, vq20, vq21, vq22, vq23, vq24, vq25, vq26, vq27, vq28, vq29, vq30, vq31, .int 0, .int 0, .int 0, .int 0, .int 0, .int 0, .int 0, .int 0, .int 0, .int 0, .int 0, .int 0, .int 0, .int 0, .long 0, .ref yL, .ref yD, .ref yB, vq50, vq51, vq52, vq53, vq54, vq55, vq56, vq57, .int 0, .int 0, .int 0, .int 0, .int 0, .int 0, vq64, vq65, .int (-1), .int (-1), vq68, vq69, vq70, vq71, vq72, vq73, vq74, vq75, vq76, vq77, vq78, vq79, vq80, vq81, vq82, vq83, .int 0, .int 0, .int (-1), .int 0, vq88, .int 0, vq90, vq91, vq92, vq93, vq94, .int 0])), (yT, .inl (kyT, 340, .inl (fun _ => 0)))]) (hS : va_S A s.heap H locs) (ls : Array Slot) (hl : lv_has ls 7 [(0, .ref b), (1, .ref xX), (2, .ref yM), (3, .ref yO), (4, .int 0)]) : W p l e room_1 s m #[Value.ref b] below meth c H locs 156 13846 (lw_Z below #[Value.ref b] s) (F0 m 156 ls []) := by
  obtain ⟨hx, hb, hr, hml, hown, hts0, hX, hbl, hlocks, hgv⟩ := id C0
  have hb : c.code = cL_law := hb
  have hown : s.vm.findClass RL = some m.cls := hown
  have hts : ∀ w ∈ (.initialized RL :: lw_good : List Cond), w.before #[Value.ref b] s = true := fun w h => (List.mem_cons.mp h).elim (fun q => by rw [q]; exact hts0 _ (lwgT kw_1_0)) (fun q => hts0 w (lwgT q))
  have hA : ∀ q : Nat, s.heap.size ≤ q → A q := fun q h => by rw [hAe]; exact h
  have hbA : ¬ A b := by rw [hAe]; exact Nat.not_le.mpr hbl
  refine lv_aload_n hx hb dL_law_156 rfl (lv_at hl 1 rfl) ?_
  refine lv_aload_n hx hb dL_law_157 rfl (lv_at hl 0 rfl) ?_
  refine lv_iload hx hb dL_law_158 (lv_at hl 4 rfl) ?_
  refine lv_iconst (v := 1) hx hb dL_law_160 (by decide) ?_
  refine lv_iadd hx hb dL_law_161 ?_
  refine my_ti (y := 1) (by decide) ?_
  refine va_sld hx hb hX hbl hbA hS (by rw [hL7]; unfold vp_in; decide) dL_law_162 ?_
  refine lv_topi (fun v_1 ev_1 => ?_)
  refine lv_aload_n hx hb dL_law_163 rfl (lv_at hl 0 rfl) ?_
  refine lv_iload hx hb dL_law_164 (lv_at hl 4 rfl) ?_
  refine lv_iconst (v := 2) hx hb dL_law_166 (by decide) ?_
  refine lv_iadd hx hb dL_law_167 ?_
  refine my_ti (y := 2) (by decide) ?_
  refine va_sld hx hb hX hbl hbA hS (by rw [hL7]; unfold vp_in; decide) dL_law_168 ?_
  refine lv_topi (fun v_2 ev_2 => ?_)
  refine lv_aload_n hx hb dL_law_169 rfl (lv_at hl 0 rfl) ?_
  refine lv_iload hx hb dL_law_170 (lv_at hl 4 rfl) ?_
  refine lv_iconst (v := 3) hx hb dL_law_172 (by decide) ?_
  refine lv_iadd hx hb dL_law_173 ?_
  refine my_ti (y := 3) (by decide) ?_
  refine va_sld hx hb hX hbl hbA hS (by rw [hL7]; unfold vp_in; decide) dL_law_174 ?_
  refine lv_topi (fun v_3 ev_3 => ?_)
  refine lv_aload_n hx hb dL_law_175 rfl (lv_at hl 0 rfl) ?_
  refine lv_iload hx hb dL_law_176 (lv_at hl 4 rfl) ?_
  refine lv_iconst (v := 4) hx hb dL_law_178 (by decide) ?_
  refine lv_iadd hx hb dL_law_179 ?_
  refine my_ti (y := 4) (by decide) ?_
  refine va_sld hx hb hX hbl hbA hS (by rw [hL7]; unfold vp_in; decide) dL_law_180 ?_
  refine lv_topi (fun v_4 ev_4 => ?_)
  refine lv_aload_n hx hb dL_law_181 rfl (lv_at hl 0 rfl) ?_
  refine lv_iload hx hb dL_law_182 (lv_at hl 4 rfl) ?_
  refine lv_iconst (v := 5) hx hb dL_law_184 (by decide) ?_
  refine lv_iadd hx hb dL_law_185 ?_
  refine my_ti (y := 5) (by decide) ?_
  refine va_sld hx hb hX hbl hbA hS (by rw [hL7]; unfold vp_in; decide) dL_law_186 ?_
  refine lv_topi (fun v_5 ev_5 => ?_)
  have hPc := hP.sub (ws' := [(xX, .inr (11, [.ref xT, .int 0, .ref xW, .ref xR, .ref xM, .ref xS, .int (-1), .int 0, .int (-1)])), (xT, .inl (cT, 340, .inl (fun _ => 0)))]) [0, 1] rfl
  have hDc := hD.sub (ws' := [(xX, .inr (11, [.ref xT, .int 0, .ref xW, .ref xR, .ref xM, .ref xS, .int (-1), .int 0, .int (-1)])), (xT, .inl (cT, 340, .inl (fun _ => 0)))]) [0, 1] (by decide) rfl
  have hKc := hK.sub (tys' := [(cT, .int)]) [0] rfl
  have hFc := va_free (wc := [(xX, .inr (11, [.ref xT, .int 0, .ref xW, .ref xR, .ref xM, .ref xS, .int (-1), .int 0, .int (-1)])), (xT, .inl (cT, 340, .inl (fun _ => 0)))]) hD hS hA [0, 1] rfl
  refine va_calli (va_runV (As := [.int v_1, .int v_2, .int v_3, .int v_4, .int v_5]) (rest := []) ⟨hx, hb, hml, hown, hts⟩ (x_feed l dC dI H.size v_1 v_2 v_3 v_4 v_5 xX xT xW xR xM xS cT) (cwV 5 hts (gV kw_3_119 kw_3_120 kw_3_121 kw_1_1 kw_3_122) rfl rfl rfl (by decide +kernel) ⟨Nat.le_of_ble_eq_true rfl, Nat.le_of_ble_eq_true rfl⟩) ⟨fun a U g mk q => by obtain ⟨q0, q1, qP, qK, qD⟩ := q; exact ⟨q0, q1, qP, va_K.moved (u := U) (U := U.calling g mk a) (Vm.Alike.refl U.vm) qK, qD⟩, va_recv hKc hPc (ci := 11) (q0 := 0) rfl rfl, fun U hU hW => ⟨rfl, by rw [hU], by rw [hU]; exact hPc, va_K.moved hW.alike hKc, hDc.weaken (fun _ _ _ _ => trivial)⟩⟩ rfl rfl hl.1 rfl (lv_room (Nat.le_of_ble_eq_true rfl)) dL_law_187 ⟨Nat.le_of_ble_eq_true rfl, Nat.le_of_ble_eq_true rfl⟩) hS (fun q _ h => hFc q h) hFc (fun r_6 u t H1 locs ht hvm hw hB hz1 hk1 hS => ?_)
  obtain ⟨hP, hD⟩ := va_join (wr := [(yM, .inr (12, [.int 0, .ref yT, .int 0, .int 0, .ref yF, vq5, .int 0, .int 0, .int 0, vq9, vq10, vq11, vq12, vq13, vq14, vq15, vq16, vq17, vq18, .ref yC, vq20, vq21, vq22, vq23, vq24, vq25, vq26, vq27, vq28, vq29, vq30, vq31, .int 0, .int 0, .int 0, .int 0, .int 0, .int 0, .int 0, .int 0, .int 0, .int 0, .int 0, .int 0, .int 0, .int 0, .long 0, .ref yL, .ref yD, .ref yB, vq50, vq51, vq52, vq53, vq54, vq55, vq56, vq57, .int 0, .int 0, .int 0, .int 0, .int 0, .int 0, vq64, vq65, .int (-1), .int (-1), vq68, vq69, vq70, vq71, vq72, vq73, vq74, vq75, vq76, vq77, vq78, vq79, vq80, vq81, vq82, vq83, .int 0, .int 0, .int (-1), .int 0, vq88, .int 0, vq90, vq91, vq92, vq93, vq94, .int 0])), (yT, .inl (kyT, 340, .inl (fun _ => 0)))]) (w1 := []) hP hD [0, 1] [2, 3] rfl rfl (by decide) (by decide) hk1 hFc (fun k q h => by simp at h) ⟨fun i j p q h => by simp at h, fun k q h => by simp at h⟩
  have hK := hK.sub (tys' := [(kyT, .int)]) [1] rfl
  generalize H1 = H at hP hS ⊢
  have hP : va_P (dC, dI) vwCl [(yM, .inr (12, [.int 0, .ref yT, .int 0, .int 0, .ref yF, vq5, .int 0, .int 0, .int 0, vq9, vq10, vq11, vq12, vq13, vq14, vq15, vq16, vq17, vq18, .ref yC, vq20, vq21, vq22, vq23, vq24, vq25, vq26, vq27, vq28, vq29, vq30, vq31, .int 0, .int 0, .int 0, .int 0, .int 0, .int 0, .int 0, .int 0, .int 0, .int 0, .int 0, .int 0, .int 0, .int 0, .long 0, .ref yL, .ref yD, .ref yB, vq50, vq51, vq52, vq53, vq54, vq55, vq56, vq57, .int 0, .int 0, .int 0, .int 0, .int 0, .int 0, vq64, vq65, .int (-1), .int (-1), vq68, vq69, vq70, vq71, vq72, vq73, vq74, vq75, vq76, vq77, vq78, vq79, vq80, vq81, vq82, vq83, .int 0, .int 0, .int (-1), .int 0, vq88, .int 0, vq90, vq91, vq92, vq93, vq94, .int 0])), (yT, .inl (kyT, 340, .inl (fun _ => 0)))] H := hP
  have hD : va_D A [(yM, .inr (12, [.int 0, .ref yT, .int 0, .int 0, .ref yF, vq5, .int 0, .int 0, .int 0, vq9, vq10, vq11, vq12, vq13, vq14, vq15, vq16, vq17, vq18, .ref yC, vq20, vq21, vq22, vq23, vq24, vq25, vq26, vq27, vq28, vq29, vq30, vq31, .int 0, .int 0, .int 0, .int 0, .int 0, .int 0, .int 0, .int 0, .int 0, .int 0, .int 0, .int 0, .int 0, .int 0, .long 0, .ref yL, .ref yD, .ref yB, vq50, vq51, vq52, vq53, vq54, vq55, vq56, vq57, .int 0, .int 0, .int 0, .int 0, .int 0, .int 0, vq64, vq65, .int (-1), .int (-1), vq68, vq69, vq70, vq71, vq72, vq73, vq74, vq75, vq76, vq77, vq78, vq79, vq80, vq81, vq82, vq83, .int 0, .int 0, .int (-1), .int 0, vq88, .int 0, vq90, vq91, vq92, vq93, vq94, .int 0])), (yT, .inl (kyT, 340, .inl (fun _ => 0)))] := hD
  have hK : va_K (dC, dI) vwCl [(kyT, .int)] s := hK
  subst hw
  refine lv_aload_n hx hb dL_law_190 rfl (lv_at hl 2 rfl) ?_
  refine lv_aload_n hx hb dL_law_191 rfl (lv_at hl 0 rfl) ?_
  refine lv_iload hx hb dL_law_192 (lv_at hl 4 rfl) ?_
  refine lv_iconst (v := 1) hx hb dL_law_194 (by decide) ?_
  refine lv_iadd hx hb dL_law_195 ?_
  refine my_ti (y := 1) (by decide) ?_
  refine va_sld hx hb hX hbl hbA hS (by rw [hL7]; unfold vp_in; decide) dL_law_196 ?_
  refine lv_topi (fun v_8 ev_8 => ?_)
  refine lv_aload_n hx hb dL_law_197 rfl (lv_at hl 0 rfl) ?_
  refine lv_iload hx hb dL_law_198 (lv_at hl 4 rfl) ?_
  refine lv_iconst (v := 2) hx hb dL_law_200 (by decide) ?_
  refine lv_iadd hx hb dL_law_201 ?_
  refine my_ti (y := 2) (by decide) ?_
  refine va_sld hx hb hX hbl hbA hS (by rw [hL7]; unfold vp_in; decide) dL_law_202 ?_
  refine lv_topi (fun v_9 ev_9 => ?_)
  refine lv_aload_n hx hb dL_law_203 rfl (lv_at hl 0 rfl) ?_
  refine lv_iload hx hb dL_law_204 (lv_at hl 4 rfl) ?_
  refine lv_iconst (v := 3) hx hb dL_law_206 (by decide) ?_
  refine lv_iadd hx hb dL_law_207 ?_
  refine my_ti (y := 3) (by decide) ?_
  refine va_sld hx hb hX hbl hbA hS (by rw [hL7]; unfold vp_in; decide) dL_law_208 ?_
  refine lv_topi (fun v_10 ev_10 => ?_)
  refine lv_aload_n hx hb dL_law_209 rfl (lv_at hl 0 rfl) ?_
  refine lv_iload hx hb dL_law_210 (lv_at hl 4 rfl) ?_
  refine lv_iconst (v := 4) hx hb dL_law_212 (by decide) ?_
  refine lv_iadd hx hb dL_law_213 ?_
  refine my_ti (y := 4) (by decide) ?_
  refine va_sld hx hb hX hbl hbA hS (by rw [hL7]; unfold vp_in; decide) dL_law_214 ?_
  refine lv_topi (fun v_11 ev_11 => ?_)
  refine lv_aload_n hx hb dL_law_215 rfl (lv_at hl 0 rfl) ?_
  refine lv_iload hx hb dL_law_216 (lv_at hl 4 rfl) ?_
  refine lv_iconst (v := 5) hx hb dL_law_218 (by decide) ?_
  refine lv_iadd hx hb dL_law_219 ?_
  refine my_ti (y := 5) (by decide) ?_
  refine va_sld hx hb hX hbl hbA hS (by rw [hL7]; unfold vp_in; decide) dL_law_220 ?_
  refine lv_topi (fun v_12 ev_12 => ?_)
  have hPc := hP.sub (ws' := [(yM, .inr (12, [.int 0, .ref yT, .int 0, .int 0, .ref yF, vq5, .int 0, .int 0, .int 0, vq9, vq10, vq11, vq12, vq13, vq14, vq15, vq16, vq17, vq18, .ref yC, vq20, vq21, vq22, vq23, vq24, vq25, vq26, vq27, vq28, vq29, vq30, vq31, .int 0, .int 0, .int 0, .int 0, .int 0, .int 0, .int 0, .int 0, .int 0, .int 0, .int 0, .int 0, .int 0, .int 0, .long 0, .ref yL, .ref yD, .ref yB, vq50, vq51, vq52, vq53, vq54, vq55, vq56, vq57, .int 0, .int 0, .int 0, .int 0, .int 0, .int 0, vq64, vq65, .int (-1), .int (-1), vq68, vq69, vq70, vq71, vq72, vq73, vq74, vq75, vq76, vq77, vq78, vq79, vq80, vq81, vq82, vq83, .int 0, .int 0, .int (-1), .int 0, vq88, .int 0, vq90, vq91, vq92, vq93, vq94, .int 0])), (yT, .inl (kyT, 340, .inl (fun _ => 0)))]) [0, 1] rfl
  have hDc := hD.sub (ws' := [(yM, .inr (12, [.int 0, .ref yT, .int 0, .int 0, .ref yF, vq5, .int 0, .int 0, .int 0, vq9, vq10, vq11, vq12, vq13, vq14, vq15, vq16, vq17, vq18, .ref yC, vq20, vq21, vq22, vq23, vq24, vq25, vq26, vq27, vq28, vq29, vq30, vq31, .int 0, .int 0, .int 0, .int 0, .int 0, .int 0, .int 0, .int 0, .int 0, .int 0, .int 0, .int 0, .int 0, .int 0, .long 0, .ref yL, .ref yD, .ref yB, vq50, vq51, vq52, vq53, vq54, vq55, vq56, vq57, .int 0, .int 0, .int 0, .int 0, .int 0, .int 0, vq64, vq65, .int (-1), .int (-1), vq68, vq69, vq70, vq71, vq72, vq73, vq74, vq75, vq76, vq77, vq78, vq79, vq80, vq81, vq82, vq83, .int 0, .int 0, .int (-1), .int 0, vq88, .int 0, vq90, vq91, vq92, vq93, vq94, .int 0])), (yT, .inl (kyT, 340, .inl (fun _ => 0)))]) [0, 1] (by decide) rfl
  have hKc := hK.sub (tys' := [(kyT, .int)]) [0] rfl
  have hFc := va_free (wc := [(yM, .inr (12, [.int 0, .ref yT, .int 0, .int 0, .ref yF, vq5, .int 0, .int 0, .int 0, vq9, vq10, vq11, vq12, vq13, vq14, vq15, vq16, vq17, vq18, .ref yC, vq20, vq21, vq22, vq23, vq24, vq25, vq26, vq27, vq28, vq29, vq30, vq31, .int 0, .int 0, .int 0, .int 0, .int 0, .int 0, .int 0, .int 0, .int 0, .int 0, .int 0, .int 0, .int 0, .int 0, .long 0, .ref yL, .ref yD, .ref yB, vq50, vq51, vq52, vq53, vq54, vq55, vq56, vq57, .int 0, .int 0, .int 0, .int 0, .int 0, .int 0, vq64, vq65, .int (-1), .int (-1), vq68, vq69, vq70, vq71, vq72, vq73, vq74, vq75, vq76, vq77, vq78, vq79, vq80, vq81, vq82, vq83, .int 0, .int 0, .int (-1), .int 0, vq88, .int 0, vq90, vq91, vq92, vq93, vq94, .int 0])), (yT, .inl (kyT, 340, .inl (fun _ => 0)))]) hD hS hA [0, 1] rfl
  refine va_calli (va_runV (As := [.int v_8, .int v_9, .int v_10, .int v_11, .int v_12]) (rest := [.int 20]) ⟨hx, hb, hml, hown, hts⟩ (m_feed l dC dI H.size v_8 v_9 v_10 v_11 v_12 yM yT yF (vq5 : Value) (vq9 : Value) (vq10 : Value) (vq11 : Value) (vq12 : Value) (vq13 : Value) (vq14 : Value) (vq15 : Value) (vq16 : Value) (vq17 : Value) (vq18 : Value) yC (vq20 : Value) (vq21 : Value) (vq22 : Value) (vq23 : Value) (vq24 : Value) (vq25 : Value) (vq26 : Value) (vq27 : Value) (vq28 : Value) (vq29 : Value) (vq30 : Value) (vq31 : Value) yL yD yB (vq50 : Value) (vq51 : Value) (vq52 : Value) (vq53 : Value) (vq54 : Value) (vq55 : Value) (vq56 : Value) (vq57 : Value) (vq64 : Value) (vq65 : Value) (vq68 : Value) (vq69 : Value) (vq70 : Value) (vq71 : Value) (vq72 : Value) (vq73 : Value) (vq74 : Value) (vq75 : Value) (vq76 : Value) (vq77 : Value) (vq78 : Value) (vq79 : Value) (vq80 : Value) (vq81 : Value) (vq82 : Value) (vq83 : Value) (vq88 : Value) (vq90 : Value) (vq91 : Value) (vq92 : Value) (vq93 : Value) (vq94 : Value) kyT) (cwV 5 hts (gV kw_7_203 kw_7_204 kw_7_205 kw_1_15 kw_7_206) rfl rfl rfl (by decide +kernel) ⟨Nat.le_of_ble_eq_true rfl, Nat.le_of_ble_eq_true rfl⟩) ⟨fun a U g mk q => by obtain ⟨q0, q1, qP, qK, qD⟩ := q; exact ⟨q0, q1, qP, va_K.moved (u := U) (U := U.calling g mk a) (Vm.Alike.refl U.vm) qK, qD⟩, va_recv hKc hPc (ci := 12) (q0 := 0) rfl rfl, fun U hU hW => ⟨rfl, by rw [hU], by rw [hU]; exact hPc, va_K.moved hW.alike hKc, hDc.weaken (fun _ _ _ _ => trivial)⟩⟩ rfl rfl hl.1 rfl (lv_room (Nat.le_of_ble_eq_true rfl)) dL_law_221 ⟨Nat.le_of_ble_eq_true rfl, Nat.le_of_ble_eq_true rfl⟩) hS (fun q _ h => hFc q h) hFc (fun r_13 u t H1 locs ht hvm hw hB hz1 hk1 hS => ?_)
  obtain ⟨hP, hD⟩ := va_join (wr := []) (w1 := []) hP hD [0, 1] [] rfl rfl (by decide) (by decide) hk1 hFc (fun k q h => by simp at h) ⟨fun i j p q h => by simp at h, fun k q h => by simp at h⟩
  have hK := hK.sub (tys' := []) [] rfl
  generalize H1 = H at hP hS ⊢
  have hP : va_P (dC, dI) vwCl [] H := hP
  have hD : va_D A [] := hD
  have hK : va_K (dC, dI) vwCl [] s := hK
  subst hw
  refine lv_icmp_eq (tgt := 1042) hx hb dL_law_224 (by decide) (fun c_15 => ?_) (fun c_15 => ?_)
  rotate_left
  · exact (c_15 (by decide)).elim
  refine lv_iinc (v := 7) (lv' := [(4, .int 7), (0, .ref b), (1, .ref xX), (2, .ref yM), (3, .ref yO)]) hx hb dL_law_1042 hl (k := 4) rfl (by decide) (by decide) rfl (fun ls hl => ?_)
  refine lv_goto (tgt := 23) hx hb dL_law_1045 (by decide) ?_
  refine lv_iload hx hb dL_law_23 (lv_at hl 0 rfl) ?_
  refine lv_aload_n hx hb dL_law_25 rfl (lv_at hl 1 rfl) ?_
  refine va_slen hx hb hX hbl hbA hS dL_law_26 ?_
  refine my_ti (y := 7) (by rw [hL7]; rfl) ?_
  refine lv_bipush (v := 7) hx hb dL_law_27 (by decide) ?_
  refine lv_isub hx hb dL_law_29 ?_
  refine my_ti (y := 0) (by decide) ?_
  refine lv_icmp_gt (tgt := 1048) hx hb dL_law_30 (by decide) (fun c_16 => ?_) (fun c_16 => ?_)
  rotate_left
  · exact (c_16 (by decide)).elim
  refine lv_iconst (v := 1) hx hb dL_law_1048 (by decide) ?_
  refine va_forget (fun q hq => by have h9 := hS.2.2 q hq; rw [hAe] at h9; exact h9) ?_
  refine W.widen (k := 600002) (n := 7302232) (Nat.le_of_ble_eq_true rfl) (Nat.le_of_ble_eq_true rfl) ?_
  exact lw_ret hx hb hr hlocks dL_law_1049
set_option maxHeartbeats 4000000 in
set_option maxRecDepth 100000 in
theorem law_1 {p : Program} {e : Env} {s : State} {m : MethodId} {below : List Frame} {meth : Method} {c : Code} (l : Launch) {b L : Nat} {xs : Nat → Int32} (hL7 : L = 7) (C0 : lw_At p s m meth c b L xs) (dC : Nat → ClassId) (dI : Nat → Nat → Nat) (A : Nat → Prop) (hAe : A = fun q => s.heap.size ≤ q) (yO : Nat) (xX : Nat) (xT : Nat) (xW : Nat) (xR : Nat) (xM : Nat) (xS : Nat) (yM : Nat) (yT : Nat) (yF : Nat) (vq5 : Value) (vq9 : Value) (vq10 : Value) (vq11 : Value) (vq12 : Value) (vq13 : Value) (vq14 : Value) (vq15 : Value) (vq16 : Value) (vq17 : Value) (vq18 : Value) (yC : Nat) (vq20 : Value) (vq21 : Value) (vq22 : Value) (vq23 : Value) (vq24 : Value) (vq25 : Value) (vq26 : Value) (vq27 : Value) (vq28 : Value) (vq29 : Value) (vq30 : Value) (vq31 : Value) (yL : Nat) (yD : Nat) (yB : Nat) (vq50 : Value) (vq51 : Value) (vq52 : Value) (vq53 : Value) (vq54 : Value) (vq55 : Value) (vq56 : Value) (vq57 : Value) (vq64 : Value) (vq65 : Value) (vq68 : Value) (vq69 : Value) (vq70 : Value) (vq71 : Value) (vq72 : Value) (vq73 : Value) (vq74 : Value) (vq75 : Value) (vq76 : Value) (vq77 : Value) (vq78 : Value) (vq79 : Value) (vq80 : Value) (vq81 : Value) (vq82 : Value) (vq83 : Value) (vq88 : Value) (vq90 : Value) (vq91 : Value) (vq92 : Value) (vq93 : Value) (vq94 : Value) (H : Heap) (locs : List Loc) (hK : va_K (dC, dI) vwCl [] s) (hP : va_P (dC, dI) vwCl [(xX, .inr (11, [.ref xT, .int 0, .ref xW, .ref xR, .ref xM, .ref xS, .int (-1), .int 0, .int (-1)])), (yM, .inr (12, [.int 0, .ref yT, .int 0, .int 0, .ref yF, vq5, .int 0, .int 0, .int 0, vq9, vq10, vq11, vq12, vq13, vq14, vq15, vq16, vq17, vq18, .ref yC, vq20, vq21, vq22, vq23, vq24, vq25, vq26, vq27, vq28, vq29, vq30, vq31, .int 0, .int 0, .int 0, .int 0, .int 0, .int 0, .int 0, .int 0, .int 0, .int 0, .int 0, .int 0, .int 0, .int 0, .long 0, .ref yL, .ref yD, .ref yB, vq50, vq51, vq52, vq53, vq54, vq55, vq56, vq57, .int 0, .int 0, .int 0, .int 0, .int 0, .int 0, vq64, vq65, .int (-1), .int (-1), vq68, vq69, vq70, vq71, vq72, vq73, vq74, vq75, vq76, vq77, vq78, vq79, vq80, vq81, vq82, vq83, .int 0, .int 0, .int (-1), .int 0, vq88, .int 0, vq90, vq91, vq92, vq93, vq94, .int 0]))] H) (hD : va_D A [(xX, .inr (11, [.ref xT, .int 0, .ref xW, .ref xR, .ref xM, .ref xS, .int (-1), .int 0, .int (-1)])), (yM, .inr (12, [.int 0, .ref yT, .int 0, .int 0, .ref yF, vq5, .int 0, .int 0, .int 0, vq9, vq10, vq11, vq12, vq13, vq14, vq15, vq16, vq17, vq18, .ref yC, vq20, vq21, vq22, vq23, vq24, vq25, vq26, vq27, vq28, vq29, vq30, vq31, .int 0, .int 0, .int 0, .int 0, .int 0, .int 0, .int 0, .int 0, .int 0, .int 0, .int 0, .int 0, .int 0, .int 0, .long 0, .ref yL, .ref yD, .ref yB, vq50, vq51, vq52, vq53, vq54, vq55, vq56, vq57, .int 0, .int 0, .int 0, .int 0, .int 0, .int 0, vq64, vq65, .int (-1), .int (-1), vq68, vq69, vq70, vq71, vq72, vq73, vq74, vq75, vq76, vq77, vq78, vq79, vq80, vq81, vq82, vq83, .int 0, .int 0, .int (-1), .int 0, vq88, .int 0, vq90, vq91, vq92, vq93, vq94, .int 0]))]) (hS : va_S A s.heap H locs) (ls : Array Slot) (hl : lv_has ls 7 [(0, .ref b), (1, .ref xX), (2, .ref yM), (3, .ref yO), (4, .int 0)]) : W p l e room_1 s m #[Value.ref b] below meth c H locs 156 13846 (lw_Z below #[Value.ref b] s) (F0 m 229 ls []) := by
  obtain ⟨hx, hb, hr, hml, hown, hts0, hX, hbl, hlocks, hgv⟩ := id C0
  have hb : c.code = cL_law := hb
  have hown : s.vm.findClass RL = some m.cls := hown
  have hts : ∀ w ∈ (.initialized RL :: lw_good : List Cond), w.before #[Value.ref b] s = true := fun w h => (List.mem_cons.mp h).elim (fun q => by rw [q]; exact hts0 _ (lwgT kw_1_0)) (fun q => hts0 w (lwgT q))
  have hA : ∀ q : Nat, s.heap.size ≤ q → A q := fun q h => by rw [hAe]; exact h
  have hbA : ¬ A b := by rw [hAe]; exact Nat.not_le.mpr hbl
  refine lv_aload_n hx hb dL_law_229 rfl (lv_at hl 1 rfl) ?_
  refine lv_aload_n hx hb dL_law_230 rfl (lv_at hl 0 rfl) ?_
  refine lv_iload hx hb dL_law_231 (lv_at hl 4 rfl) ?_
  refine lv_iconst (v := 1) hx hb dL_law_233 (by decide) ?_
  refine lv_iadd hx hb dL_law_234 ?_
  refine my_ti (y := 1) (by decide) ?_
  refine va_sld hx hb hX hbl hbA hS (by rw [hL7]; unfold vp_in; decide) dL_law_235 ?_
  refine lv_topi (fun v_1 ev_1 => ?_)
  have hPc := hP.sub (ws' := [(xX, .inr (11, [.ref xT, .int 0, .ref xW, .ref xR, .ref xM, .ref xS, .int (-1), .int 0, .int (-1)]))]) [0] rfl
  have hDc := hD.sub (ws' := [(xX, .inr (11, [.ref xT, .int 0, .ref xW, .ref xR, .ref xM, .ref xS, .int (-1), .int 0, .int (-1)]))]) [0] (by decide) rfl
  have hKc := hK.sub (tys' := []) [] rfl
  have hFc := va_free (wc := [(xX, .inr (11, [.ref xT, .int 0, .ref xW, .ref xR, .ref xM, .ref xS, .int (-1), .int 0, .int (-1)]))]) hD hS hA [0] rfl
  refine va_calli (va_runV (As := [.int v_1]) (rest := []) ⟨hx, hb, hml, hown, hts⟩ (x_end l dC dI H.size v_1 xX xT xW xR xM xS) (cwV 1 hts (gV kw_3_127 kw_3_128 kw_3_129 kw_1_1 kw_3_130) rfl rfl rfl (by decide +kernel) ⟨Nat.le_of_ble_eq_true rfl, Nat.le_of_ble_eq_true rfl⟩) ⟨fun a U g mk q => by obtain ⟨q0, q1, qP, qK, qD⟩ := q; exact ⟨q0, q1, qP, va_K.moved (u := U) (U := U.calling g mk a) (Vm.Alike.refl U.vm) qK, qD⟩, va_recv hKc hPc (ci := 11) (q0 := 0) rfl rfl, fun U hU hW => ⟨rfl, by rw [hU], by rw [hU]; exact hPc, va_K.moved hW.alike hKc, hDc.weaken (fun _ _ _ _ => trivial)⟩⟩ rfl rfl hl.1 rfl (lv_room (Nat.le_of_ble_eq_true rfl)) dL_law_236 ⟨Nat.le_of_ble_eq_true rfl, Nat.le_of_ble_eq_true rfl⟩) hS (fun q _ h => hFc q h) hFc (fun r_2 u t H1 locs ht hvm hw hB hz1 hk1 hS => ?_)
  obtain ⟨hP, hD⟩ := va_join (wr := [(yM, .inr (12, [.int 0, .ref yT, .int 0, .int 0, .ref yF, vq5, .int 0, .int 0, .int 0, vq9, vq10, vq11, vq12, vq13, vq14, vq15, vq16, vq17, vq18, .ref yC, vq20, vq21, vq22, vq23, vq24, vq25, vq26, vq27, vq28, vq29, vq30, vq31, .int 0, .int 0, .int 0, .int 0, .int 0, .int 0, .int 0, .int 0, .int 0, .int 0, .int 0, .int 0, .int 0, .int 0, .long 0, .ref yL, .ref yD, .ref yB, vq50, vq51, vq52, vq53, vq54, vq55, vq56, vq57, .int 0, .int 0, .int 0, .int 0, .int 0, .int 0, vq64, vq65, .int (-1), .int (-1), vq68, vq69, vq70, vq71, vq72, vq73, vq74, vq75, vq76, vq77, vq78, vq79, vq80, vq81, vq82, vq83, .int 0, .int 0, .int (-1), .int 0, vq88, .int 0, vq90, vq91, vq92, vq93, vq94, .int 0]))]) (w1 := []) hP hD [0] [1] rfl rfl (by decide) (by decide) hk1 hFc (fun k q h => by simp at h) ⟨fun i j p q h => by simp at h, fun k q h => by simp at h⟩
  have hK := hK.sub (tys' := []) [] rfl
  generalize H1 = H at hP hS ⊢
  have hP : va_P (dC, dI) vwCl [(yM, .inr (12, [.int 0, .ref yT, .int 0, .int 0, .ref yF, vq5, .int 0, .int 0, .int 0, vq9, vq10, vq11, vq12, vq13, vq14, vq15, vq16, vq17, vq18, .ref yC, vq20, vq21, vq22, vq23, vq24, vq25, vq26, vq27, vq28, vq29, vq30, vq31, .int 0, .int 0, .int 0, .int 0, .int 0, .int 0, .int 0, .int 0, .int 0, .int 0, .int 0, .int 0, .int 0, .int 0, .long 0, .ref yL, .ref yD, .ref yB, vq50, vq51, vq52, vq53, vq54, vq55, vq56, vq57, .int 0, .int 0, .int 0, .int 0, .int 0, .int 0, vq64, vq65, .int (-1), .int (-1), vq68, vq69, vq70, vq71, vq72, vq73, vq74, vq75, vq76, vq77, vq78, vq79, vq80, vq81, vq82, vq83, .int 0, .int 0, .int (-1), .int 0, vq88, .int 0, vq90, vq91, vq92, vq93, vq94, .int 0]))] H := hP
  have hD : va_D A [(yM, .inr (12, [.int 0, .ref yT, .int 0, .int 0, .ref yF, vq5, .int 0, .int 0, .int 0, vq9, vq10, vq11, vq12, vq13, vq14, vq15, vq16, vq17, vq18, .ref yC, vq20, vq21, vq22, vq23, vq24, vq25, vq26, vq27, vq28, vq29, vq30, vq31, .int 0, .int 0, .int 0, .int 0, .int 0, .int 0, .int 0, .int 0, .int 0, .int 0, .int 0, .int 0, .int 0, .int 0, .long 0, .ref yL, .ref yD, .ref yB, vq50, vq51, vq52, vq53, vq54, vq55, vq56, vq57, .int 0, .int 0, .int 0, .int 0, .int 0, .int 0, vq64, vq65, .int (-1), .int (-1), vq68, vq69, vq70, vq71, vq72, vq73, vq74, vq75, vq76, vq77, vq78, vq79, vq80, vq81, vq82, vq83, .int 0, .int 0, .int (-1), .int 0, vq88, .int 0, vq90, vq91, vq92, vq93, vq94, .int 0]))] := hD
  have hK : va_K (dC, dI) vwCl [] s := hK
  have h_3 := hw
  refine lv_aload_n hx hb dL_law_239 rfl (lv_at hl 2 rfl) ?_
  refine lv_aload_n hx hb dL_law_240 rfl (lv_at hl 0 rfl) ?_
  refine lv_iload hx hb dL_law_241 (lv_at hl 4 rfl) ?_
  refine lv_iconst (v := 1) hx hb dL_law_243 (by decide) ?_
  refine lv_iadd hx hb dL_law_244 ?_
  refine my_ti (y := 1) (by decide) ?_
  refine va_sld hx hb hX hbl hbA hS (by rw [hL7]; unfold vp_in; decide) dL_law_245 ?_
  refine lv_topi (fun v_4 ev_4 => ?_)
  have hPc := hP.sub (ws' := [(yM, .inr (12, [.int 0, .ref yT, .int 0, .int 0, .ref yF, vq5, .int 0, .int 0, .int 0, vq9, vq10, vq11, vq12, vq13, vq14, vq15, vq16, vq17, vq18, .ref yC, vq20, vq21, vq22, vq23, vq24, vq25, vq26, vq27, vq28, vq29, vq30, vq31, .int 0, .int 0, .int 0, .int 0, .int 0, .int 0, .int 0, .int 0, .int 0, .int 0, .int 0, .int 0, .int 0, .int 0, .long 0, .ref yL, .ref yD, .ref yB, vq50, vq51, vq52, vq53, vq54, vq55, vq56, vq57, .int 0, .int 0, .int 0, .int 0, .int 0, .int 0, vq64, vq65, .int (-1), .int (-1), vq68, vq69, vq70, vq71, vq72, vq73, vq74, vq75, vq76, vq77, vq78, vq79, vq80, vq81, vq82, vq83, .int 0, .int 0, .int (-1), .int 0, vq88, .int 0, vq90, vq91, vq92, vq93, vq94, .int 0]))]) [0] rfl
  have hDc := hD.sub (ws' := [(yM, .inr (12, [.int 0, .ref yT, .int 0, .int 0, .ref yF, vq5, .int 0, .int 0, .int 0, vq9, vq10, vq11, vq12, vq13, vq14, vq15, vq16, vq17, vq18, .ref yC, vq20, vq21, vq22, vq23, vq24, vq25, vq26, vq27, vq28, vq29, vq30, vq31, .int 0, .int 0, .int 0, .int 0, .int 0, .int 0, .int 0, .int 0, .int 0, .int 0, .int 0, .int 0, .int 0, .int 0, .long 0, .ref yL, .ref yD, .ref yB, vq50, vq51, vq52, vq53, vq54, vq55, vq56, vq57, .int 0, .int 0, .int 0, .int 0, .int 0, .int 0, vq64, vq65, .int (-1), .int (-1), vq68, vq69, vq70, vq71, vq72, vq73, vq74, vq75, vq76, vq77, vq78, vq79, vq80, vq81, vq82, vq83, .int 0, .int 0, .int (-1), .int 0, vq88, .int 0, vq90, vq91, vq92, vq93, vq94, .int 0]))]) [0] (by decide) rfl
  have hKc := hK.sub (tys' := []) [] rfl
  have hFc := va_free (wc := [(yM, .inr (12, [.int 0, .ref yT, .int 0, .int 0, .ref yF, vq5, .int 0, .int 0, .int 0, vq9, vq10, vq11, vq12, vq13, vq14, vq15, vq16, vq17, vq18, .ref yC, vq20, vq21, vq22, vq23, vq24, vq25, vq26, vq27, vq28, vq29, vq30, vq31, .int 0, .int 0, .int 0, .int 0, .int 0, .int 0, .int 0, .int 0, .int 0, .int 0, .int 0, .int 0, .int 0, .int 0, .long 0, .ref yL, .ref yD, .ref yB, vq50, vq51, vq52, vq53, vq54, vq55, vq56, vq57, .int 0, .int 0, .int 0, .int 0, .int 0, .int 0, vq64, vq65, .int (-1), .int (-1), vq68, vq69, vq70, vq71, vq72, vq73, vq74, vq75, vq76, vq77, vq78, vq79, vq80, vq81, vq82, vq83, .int 0, .int 0, .int (-1), .int 0, vq88, .int 0, vq90, vq91, vq92, vq93, vq94, .int 0]))]) hD hS hA [0] rfl
  refine va_calli (va_runV (As := [.int v_4]) (rest := [.int r_2]) ⟨hx, hb, hml, hown, hts⟩ (m_end l dC dI H.size v_4 yM yT yF (vq5 : Value) (vq9 : Value) (vq10 : Value) (vq11 : Value) (vq12 : Value) (vq13 : Value) (vq14 : Value) (vq15 : Value) (vq16 : Value) (vq17 : Value) (vq18 : Value) yC (vq20 : Value) (vq21 : Value) (vq22 : Value) (vq23 : Value) (vq24 : Value) (vq25 : Value) (vq26 : Value) (vq27 : Value) (vq28 : Value) (vq29 : Value) (vq30 : Value) (vq31 : Value) yL yD yB (vq50 : Value) (vq51 : Value) (vq52 : Value) (vq53 : Value) (vq54 : Value) (vq55 : Value) (vq56 : Value) (vq57 : Value) (vq64 : Value) (vq65 : Value) (vq68 : Value) (vq69 : Value) (vq70 : Value) (vq71 : Value) (vq72 : Value) (vq73 : Value) (vq74 : Value) (vq75 : Value) (vq76 : Value) (vq77 : Value) (vq78 : Value) (vq79 : Value) (vq80 : Value) (vq81 : Value) (vq82 : Value) (vq83 : Value) (vq88 : Value) (vq90 : Value) (vq91 : Value) (vq92 : Value) (vq93 : Value) (vq94 : Value)) (cwV 1 hts (gV kw_7_211 kw_7_212 kw_7_213 kw_1_15 kw_7_214) rfl rfl rfl (by decide +kernel) ⟨Nat.le_of_ble_eq_true rfl, Nat.le_of_ble_eq_true rfl⟩) ⟨fun a U g mk q => by obtain ⟨q0, q1, qP, qK, qD⟩ := q; exact ⟨q0, q1, qP, va_K.moved (u := U) (U := U.calling g mk a) (Vm.Alike.refl U.vm) qK, qD⟩, va_recv hKc hPc (ci := 12) (q0 := 0) rfl rfl, fun U hU hW => ⟨rfl, by rw [hU], by rw [hU]; exact hPc, va_K.moved hW.alike hKc, hDc.weaken (fun _ _ _ _ => trivial)⟩⟩ rfl rfl hl.1 rfl (lv_room (Nat.le_of_ble_eq_true rfl)) dL_law_246 ⟨Nat.le_of_ble_eq_true rfl, Nat.le_of_ble_eq_true rfl⟩) hS (fun q _ h => hFc q h) hFc (fun r_5 u t H1 locs ht hvm hw hB hz1 hk1 hS => ?_)
  obtain ⟨hP, hD⟩ := va_join (wr := []) (w1 := []) hP hD [0] [] rfl rfl (by decide) (by decide) hk1 hFc (fun k q h => by simp at h) ⟨fun i j p q h => by simp at h, fun k q h => by simp at h⟩
  have hK := hK.sub (tys' := []) [] rfl
  generalize H1 = H at hP hS ⊢
  have hP : va_P (dC, dI) vwCl [] H := hP
  have hD : va_D A [] := hD
  have hK : va_K (dC, dI) vwCl [] s := hK
  have h_6 := hw
  refine lv_icmp_eq (tgt := 1042) hx hb dL_law_249 (by decide) (fun c_7 => ?_) (fun c_7 => ?_)
  rotate_left
  · exact (c_7 (by rw [h_3, h_6]; simp only [ev_1, ev_4])).elim
  refine lv_iinc (v := 7) (lv' := [(4, .int 7), (0, .ref b), (1, .ref xX), (2, .ref yM), (3, .ref yO)]) hx hb dL_law_1042 hl (k := 4) rfl (by decide) (by decide) rfl (fun ls hl => ?_)
  refine lv_goto (tgt := 23) hx hb dL_law_1045 (by decide) ?_
  refine lv_iload hx hb dL_law_23 (lv_at hl 0 rfl) ?_
  refine lv_aload_n hx hb dL_law_25 rfl (lv_at hl 1 rfl) ?_
  refine va_slen hx hb hX hbl hbA hS dL_law_26 ?_
  refine my_ti (y := 7) (by rw [hL7]; rfl) ?_
  refine lv_bipush (v := 7) hx hb dL_law_27 (by decide) ?_
  refine lv_isub hx hb dL_law_29 ?_
  refine my_ti (y := 0) (by decide) ?_
  refine lv_icmp_gt (tgt := 1048) hx hb dL_law_30 (by decide) (fun c_8 => ?_) (fun c_8 => ?_)
  rotate_left
  · exact (c_8 (by decide)).elim
  refine lv_iconst (v := 1) hx hb dL_law_1048 (by decide) ?_
  refine va_forget (fun q hq => by have h9 := hS.2.2 q hq; rw [hAe] at h9; exact h9) ?_
  refine W.widen (k := 600002) (n := 7302232) (Nat.le_of_ble_eq_true rfl) (Nat.le_of_ble_eq_true rfl) ?_
  exact lw_ret hx hb hr hlocks dL_law_1049
set_option maxHeartbeats 4000000 in
set_option maxRecDepth 100000 in
theorem law_2 {p : Program} {e : Env} {s : State} {m : MethodId} {below : List Frame} {meth : Method} {c : Code} (l : Launch) {b L : Nat} {xs : Nat → Int32} (hL7 : L = 7) (C0 : lw_At p s m meth c b L xs) (dC : Nat → ClassId) (dI : Nat → Nat → Nat) (A : Nat → Prop) (hAe : A = fun q => s.heap.size ≤ q) (yO : Nat) (xX : Nat) (xT : Nat) (xW : Nat) (xR : Nat) (xM : Nat) (xS : Nat) (xRo : Nat) (xPe : Nat) (xWh : Nat) (xTr : Nat) (xCo : Nat) (xAl : Nat) (xNl : Nat) (xDr : Nat) (xFa : Nat) (yM : Nat) (yT : Nat) (yF : Nat) (vq5 : Value) (vq9 : Value) (vq10 : Value) (vq11 : Value) (vq12 : Value) (vq13 : Value) (vq14 : Value) (vq15 : Value) (vq16 : Value) (vq17 : Value) (vq18 : Value) (yC : Nat) (vq20 : Value) (vq21 : Value) (vq22 : Value) (vq23 : Value) (vq24 : Value) (vq25 : Value) (vq26 : Value) (vq27 : Value) (vq28 : Value) (vq29 : Value) (vq30 : Value) (vq31 : Value) (yL : Nat) (yD : Nat) (yB : Nat) (vq50 : Value) (vq51 : Value) (vq52 : Value) (vq53 : Value) (vq54 : Value) (vq55 : Value) (vq56 : Value) (vq57 : Value) (vq64 : Value) (vq65 : Value) (vq68 : Value) (vq69 : Value) (vq70 : Value) (vq71 : Value) (vq72 : Value) (vq73 : Value) (vq74 : Value) (vq75 : Value) (vq76 : Value) (vq77 : Value) (vq78 : Value) (vq79 : Value) (vq80 : Value) (vq81 : Value) (vq82 : Value) (vq83 : Value) (vq88 : Value) (vq90 : Value) (vq91 : Value) (vq92 : Value) (vq93 : Value) (vq94 : Value) (H : Heap) (locs : List Loc) (hK : va_K (dC, dI) vwCl [] s) (hP : va_P (dC, dI) vwCl [(xX, .inr (11, [.ref xT, .int 0, .ref xW, .ref xR, .ref xM, .ref xS, .int (-1), .int 0, .int (-1)])), (xW, .inr (7, [.ref xRo, .ref xPe, .ref xWh, .ref xTr, .ref xCo, .int 0, .ref xAl, .ref xNl, .ref xDr, .int 0, .ref xFa, .int 0, .int 0, .int 0])), (yM, .inr (12, [.int 0, .ref yT, .int 0, .int 0, .ref yF, vq5, .int 0, .int 0, .int 0, vq9, vq10, vq11, vq12, vq13, vq14, vq15, vq16, vq17, vq18, .ref yC, vq20, vq21, vq22, vq23, vq24, vq25, vq26, vq27, vq28, vq29, vq30, vq31, .int 0, .int 0, .int 0, .int 0, .int 0, .int 0, .int 0, .int 0, .int 0, .int 0, .int 0, .int 0, .int 0, .int 0, .long 0, .ref yL, .ref yD, .ref yB, vq50, vq51, vq52, vq53, vq54, vq55, vq56, vq57, .int 0, .int 0, .int 0, .int 0, .int 0, .int 0, vq64, vq65, .int (-1), .int (-1), vq68, vq69, vq70, vq71, vq72, vq73, vq74, vq75, vq76, vq77, vq78, vq79, vq80, vq81, vq82, vq83, .int 0, .int 0, .int (-1), .int 0, vq88, .int 0, vq90, vq91, vq92, vq93, vq94, .int 0]))] H) (hD : va_D A [(xX, .inr (11, [.ref xT, .int 0, .ref xW, .ref xR, .ref xM, .ref xS, .int (-1), .int 0, .int (-1)])), (xW, .inr (7, [.ref xRo, .ref xPe, .ref xWh, .ref xTr, .ref xCo, .int 0, .ref xAl, .ref xNl, .ref xDr, .int 0, .ref xFa, .int 0, .int 0, .int 0])), (yM, .inr (12, [.int 0, .ref yT, .int 0, .int 0, .ref yF, vq5, .int 0, .int 0, .int 0, vq9, vq10, vq11, vq12, vq13, vq14, vq15, vq16, vq17, vq18, .ref yC, vq20, vq21, vq22, vq23, vq24, vq25, vq26, vq27, vq28, vq29, vq30, vq31, .int 0, .int 0, .int 0, .int 0, .int 0, .int 0, .int 0, .int 0, .int 0, .int 0, .int 0, .int 0, .int 0, .int 0, .long 0, .ref yL, .ref yD, .ref yB, vq50, vq51, vq52, vq53, vq54, vq55, vq56, vq57, .int 0, .int 0, .int 0, .int 0, .int 0, .int 0, vq64, vq65, .int (-1), .int (-1), vq68, vq69, vq70, vq71, vq72, vq73, vq74, vq75, vq76, vq77, vq78, vq79, vq80, vq81, vq82, vq83, .int 0, .int 0, .int (-1), .int 0, vq88, .int 0, vq90, vq91, vq92, vq93, vq94, .int 0]))]) (hS : va_S A s.heap H locs) (ls : Array Slot) (hl : lv_has ls 7 [(0, .ref b), (1, .ref xX), (2, .ref yM), (3, .ref yO), (4, .int 0)]) : W p l e room_1 s m #[Value.ref b] below meth c H locs 156 13846 (lw_Z below #[Value.ref b] s) (F0 m 254 ls []) := by
  obtain ⟨hx, hb, hr, hml, hown, hts0, hX, hbl, hlocks, hgv⟩ := id C0
  have hb : c.code = cL_law := hb
  have hown : s.vm.findClass RL = some m.cls := hown
  have hts : ∀ w ∈ (.initialized RL :: lw_good : List Cond), w.before #[Value.ref b] s = true := fun w h => (List.mem_cons.mp h).elim (fun q => by rw [q]; exact hts0 _ (lwgT kw_1_0)) (fun q => hts0 w (lwgT q))
  have hA : ∀ q : Nat, s.heap.size ≤ q → A q := fun q h => by rw [hAe]; exact h
  have hbA : ¬ A b := by rw [hAe]; exact Nat.not_le.mpr hbl
  refine lv_aload_n hx hb dL_law_254 rfl (lv_at hl 1 rfl) ?_
  refine lv_aload_n hx hb dL_law_255 rfl (lv_at hl 0 rfl) ?_
  refine lv_iload hx hb dL_law_256 (lv_at hl 4 rfl) ?_
  refine lv_iconst (v := 1) hx hb dL_law_258 (by decide) ?_
  refine lv_iadd hx hb dL_law_259 ?_
  refine my_ti (y := 1) (by decide) ?_
  refine va_sld hx hb hX hbl hbA hS (by rw [hL7]; unfold vp_in; decide) dL_law_260 ?_
  refine lv_topi (fun v_1 ev_1 => ?_)
  have hPc := hP.sub (ws' := [(xX, .inr (11, [.ref xT, .int 0, .ref xW, .ref xR, .ref xM, .ref xS, .int (-1), .int 0, .int (-1)])), (xW, .inr (7, [.ref xRo, .ref xPe, .ref xWh, .ref xTr, .ref xCo, .int 0, .ref xAl, .ref xNl, .ref xDr, .int 0, .ref xFa, .int 0, .int 0, .int 0]))]) [0, 1] rfl
  have hDc := hD.sub (ws' := [(xX, .inr (11, [.ref xT, .int 0, .ref xW, .ref xR, .ref xM, .ref xS, .int (-1), .int 0, .int (-1)])), (xW, .inr (7, [.ref xRo, .ref xPe, .ref xWh, .ref xTr, .ref xCo, .int 0, .ref xAl, .ref xNl, .ref xDr, .int 0, .ref xFa, .int 0, .int 0, .int 0]))]) [0, 1] (by decide) rfl
  have hKc := hK.sub (tys' := []) [] rfl
  have hFc := va_free (wc := [(xX, .inr (11, [.ref xT, .int 0, .ref xW, .ref xR, .ref xM, .ref xS, .int (-1), .int 0, .int (-1)])), (xW, .inr (7, [.ref xRo, .ref xPe, .ref xWh, .ref xTr, .ref xCo, .int 0, .ref xAl, .ref xNl, .ref xDr, .int 0, .ref xFa, .int 0, .int 0, .int 0]))]) hD hS hA [0, 1] rfl
  refine va_calli (va_runV (As := [.int v_1]) (rest := []) ⟨hx, hb, hml, hown, hts⟩ (x_next l dC dI H.size v_1 xX xT xW xR xM xS xRo xPe xWh xTr xCo xAl xNl xDr xFa) (cwV 1 hts (gV kw_3_131 kw_3_132 kw_3_133 kw_1_1 kw_3_134) rfl rfl rfl (by decide +kernel) ⟨Nat.le_of_ble_eq_true rfl, Nat.le_of_ble_eq_true rfl⟩) ⟨fun a U g mk q => by obtain ⟨q0, q1, qP, qK, qD⟩ := q; exact ⟨q0, q1, qP, va_K.moved (u := U) (U := U.calling g mk a) (Vm.Alike.refl U.vm) qK, qD⟩, va_recv hKc hPc (ci := 11) (q0 := 0) rfl rfl, fun U hU hW => ⟨rfl, by rw [hU], by rw [hU]; exact hPc, va_K.moved hW.alike hKc, hDc.weaken (fun _ _ _ _ => trivial)⟩⟩ rfl rfl hl.1 rfl (lv_room (Nat.le_of_ble_eq_true rfl)) dL_law_261 ⟨Nat.le_of_ble_eq_true rfl, Nat.le_of_ble_eq_true rfl⟩) hS (fun q _ h => hFc q h) hFc (fun r_2 u t H1 locs ht hvm hw hB hz1 hk1 hS => ?_)
  obtain ⟨hP, hD⟩ := va_join (wr := [(yM, .inr (12, [.int 0, .ref yT, .int 0, .int 0, .ref yF, vq5, .int 0, .int 0, .int 0, vq9, vq10, vq11, vq12, vq13, vq14, vq15, vq16, vq17, vq18, .ref yC, vq20, vq21, vq22, vq23, vq24, vq25, vq26, vq27, vq28, vq29, vq30, vq31, .int 0, .int 0, .int 0, .int 0, .int 0, .int 0, .int 0, .int 0, .int 0, .int 0, .int 0, .int 0, .int 0, .int 0, .long 0, .ref yL, .ref yD, .ref yB, vq50, vq51, vq52, vq53, vq54, vq55, vq56, vq57, .int 0, .int 0, .int 0, .int 0, .int 0, .int 0, vq64, vq65, .int (-1), .int (-1), vq68, vq69, vq70, vq71, vq72, vq73, vq74, vq75, vq76, vq77, vq78, vq79, vq80, vq81, vq82, vq83, .int 0, .int 0, .int (-1), .int 0, vq88, .int 0, vq90, vq91, vq92, vq93, vq94, .int 0]))]) (w1 := []) hP hD [0, 1] [2] rfl rfl (by decide) (by decide) hk1 hFc (fun k q h => by simp at h) ⟨fun i j p q h => by simp at h, fun k q h => by simp at h⟩
  have hK := hK.sub (tys' := []) [] rfl
  generalize H1 = H at hP hS ⊢
  have hP : va_P (dC, dI) vwCl [(yM, .inr (12, [.int 0, .ref yT, .int 0, .int 0, .ref yF, vq5, .int 0, .int 0, .int 0, vq9, vq10, vq11, vq12, vq13, vq14, vq15, vq16, vq17, vq18, .ref yC, vq20, vq21, vq22, vq23, vq24, vq25, vq26, vq27, vq28, vq29, vq30, vq31, .int 0, .int 0, .int 0, .int 0, .int 0, .int 0, .int 0, .int 0, .int 0, .int 0, .int 0, .int 0, .int 0, .int 0, .long 0, .ref yL, .ref yD, .ref yB, vq50, vq51, vq52, vq53, vq54, vq55, vq56, vq57, .int 0, .int 0, .int 0, .int 0, .int 0, .int 0, vq64, vq65, .int (-1), .int (-1), vq68, vq69, vq70, vq71, vq72, vq73, vq74, vq75, vq76, vq77, vq78, vq79, vq80, vq81, vq82, vq83, .int 0, .int 0, .int (-1), .int 0, vq88, .int 0, vq90, vq91, vq92, vq93, vq94, .int 0]))] H := hP
  have hD : va_D A [(yM, .inr (12, [.int 0, .ref yT, .int 0, .int 0, .ref yF, vq5, .int 0, .int 0, .int 0, vq9, vq10, vq11, vq12, vq13, vq14, vq15, vq16, vq17, vq18, .ref yC, vq20, vq21, vq22, vq23, vq24, vq25, vq26, vq27, vq28, vq29, vq30, vq31, .int 0, .int 0, .int 0, .int 0, .int 0, .int 0, .int 0, .int 0, .int 0, .int 0, .int 0, .int 0, .int 0, .int 0, .long 0, .ref yL, .ref yD, .ref yB, vq50, vq51, vq52, vq53, vq54, vq55, vq56, vq57, .int 0, .int 0, .int 0, .int 0, .int 0, .int 0, vq64, vq65, .int (-1), .int (-1), vq68, vq69, vq70, vq71, vq72, vq73, vq74, vq75, vq76, vq77, vq78, vq79, vq80, vq81, vq82, vq83, .int 0, .int 0, .int (-1), .int 0, vq88, .int 0, vq90, vq91, vq92, vq93, vq94, .int 0]))] := hD
  have hK : va_K (dC, dI) vwCl [] s := hK
  have h_3 := hw
  refine lv_aload_n hx hb dL_law_264 rfl (lv_at hl 2 rfl) ?_
  refine lv_aload_n hx hb dL_law_265 rfl (lv_at hl 0 rfl) ?_
  refine lv_iload hx hb dL_law_266 (lv_at hl 4 rfl) ?_
  refine lv_iconst (v := 1) hx hb dL_law_268 (by decide) ?_
  refine lv_iadd hx hb dL_law_269 ?_
  refine my_ti (y := 1) (by decide) ?_
  refine va_sld hx hb hX hbl hbA hS (by rw [hL7]; unfold vp_in; decide) dL_law_270 ?_
  refine lv_topi (fun v_4 ev_4 => ?_)
  have hPc := hP.sub (ws' := [(yM, .inr (12, [.int 0, .ref yT, .int 0, .int 0, .ref yF, vq5, .int 0, .int 0, .int 0, vq9, vq10, vq11, vq12, vq13, vq14, vq15, vq16, vq17, vq18, .ref yC, vq20, vq21, vq22, vq23, vq24, vq25, vq26, vq27, vq28, vq29, vq30, vq31, .int 0, .int 0, .int 0, .int 0, .int 0, .int 0, .int 0, .int 0, .int 0, .int 0, .int 0, .int 0, .int 0, .int 0, .long 0, .ref yL, .ref yD, .ref yB, vq50, vq51, vq52, vq53, vq54, vq55, vq56, vq57, .int 0, .int 0, .int 0, .int 0, .int 0, .int 0, vq64, vq65, .int (-1), .int (-1), vq68, vq69, vq70, vq71, vq72, vq73, vq74, vq75, vq76, vq77, vq78, vq79, vq80, vq81, vq82, vq83, .int 0, .int 0, .int (-1), .int 0, vq88, .int 0, vq90, vq91, vq92, vq93, vq94, .int 0]))]) [0] rfl
  have hDc := hD.sub (ws' := [(yM, .inr (12, [.int 0, .ref yT, .int 0, .int 0, .ref yF, vq5, .int 0, .int 0, .int 0, vq9, vq10, vq11, vq12, vq13, vq14, vq15, vq16, vq17, vq18, .ref yC, vq20, vq21, vq22, vq23, vq24, vq25, vq26, vq27, vq28, vq29, vq30, vq31, .int 0, .int 0, .int 0, .int 0, .int 0, .int 0, .int 0, .int 0, .int 0, .int 0, .int 0, .int 0, .int 0, .int 0, .long 0, .ref yL, .ref yD, .ref yB, vq50, vq51, vq52, vq53, vq54, vq55, vq56, vq57, .int 0, .int 0, .int 0, .int 0, .int 0, .int 0, vq64, vq65, .int (-1), .int (-1), vq68, vq69, vq70, vq71, vq72, vq73, vq74, vq75, vq76, vq77, vq78, vq79, vq80, vq81, vq82, vq83, .int 0, .int 0, .int (-1), .int 0, vq88, .int 0, vq90, vq91, vq92, vq93, vq94, .int 0]))]) [0] (by decide) rfl
  have hKc := hK.sub (tys' := []) [] rfl
  have hFc := va_free (wc := [(yM, .inr (12, [.int 0, .ref yT, .int 0, .int 0, .ref yF, vq5, .int 0, .int 0, .int 0, vq9, vq10, vq11, vq12, vq13, vq14, vq15, vq16, vq17, vq18, .ref yC, vq20, vq21, vq22, vq23, vq24, vq25, vq26, vq27, vq28, vq29, vq30, vq31, .int 0, .int 0, .int 0, .int 0, .int 0, .int 0, .int 0, .int 0, .int 0, .int 0, .int 0, .int 0, .int 0, .int 0, .long 0, .ref yL, .ref yD, .ref yB, vq50, vq51, vq52, vq53, vq54, vq55, vq56, vq57, .int 0, .int 0, .int 0, .int 0, .int 0, .int 0, vq64, vq65, .int (-1), .int (-1), vq68, vq69, vq70, vq71, vq72, vq73, vq74, vq75, vq76, vq77, vq78, vq79, vq80, vq81, vq82, vq83, .int 0, .int 0, .int (-1), .int 0, vq88, .int 0, vq90, vq91, vq92, vq93, vq94, .int 0]))]) hD hS hA [0] rfl
  refine va_calli (va_runV (As := [.int v_4]) (rest := [.int r_2]) ⟨hx, hb, hml, hown, hts⟩ (m_next l dC dI H.size v_4 yM yT yF (vq5 : Value) (vq9 : Value) (vq10 : Value) (vq11 : Value) (vq12 : Value) (vq13 : Value) (vq14 : Value) (vq15 : Value) (vq16 : Value) (vq17 : Value) (vq18 : Value) yC (vq20 : Value) (vq21 : Value) (vq22 : Value) (vq23 : Value) (vq24 : Value) (vq25 : Value) (vq26 : Value) (vq27 : Value) (vq28 : Value) (vq29 : Value) (vq30 : Value) (vq31 : Value) yL yD yB (vq50 : Value) (vq51 : Value) (vq52 : Value) (vq53 : Value) (vq54 : Value) (vq55 : Value) (vq56 : Value) (vq57 : Value) (vq64 : Value) (vq65 : Value) (vq68 : Value) (vq69 : Value) (vq70 : Value) (vq71 : Value) (vq72 : Value) (vq73 : Value) (vq74 : Value) (vq75 : Value) (vq76 : Value) (vq77 : Value) (vq78 : Value) (vq79 : Value) (vq80 : Value) (vq81 : Value) (vq82 : Value) (vq83 : Value) (vq88 : Value) (vq90 : Value) (vq91 : Value) (vq92 : Value) (vq93 : Value) (vq94 : Value)) (cwV 1 hts (gV kw_7_215 kw_7_216 kw_7_217 kw_1_15 kw_7_218) rfl rfl rfl (by decide +kernel) ⟨Nat.le_of_ble_eq_true rfl, Nat.le_of_ble_eq_true rfl⟩) ⟨fun a U g mk q => by obtain ⟨q0, q1, qP, qK, qD⟩ := q; exact ⟨q0, q1, qP, va_K.moved (u := U) (U := U.calling g mk a) (Vm.Alike.refl U.vm) qK, qD⟩, va_recv hKc hPc (ci := 12) (q0 := 0) rfl rfl, fun U hU hW => ⟨rfl, by rw [hU], by rw [hU]; exact hPc, va_K.moved hW.alike hKc, hDc.weaken (fun _ _ _ _ => trivial)⟩⟩ rfl rfl hl.1 rfl (lv_room (Nat.le_of_ble_eq_true rfl)) dL_law_271 ⟨Nat.le_of_ble_eq_true rfl, Nat.le_of_ble_eq_true rfl⟩) hS (fun q _ h => hFc q h) hFc (fun r_5 u t H1 locs ht hvm hw hB hz1 hk1 hS => ?_)
  obtain ⟨hP, hD⟩ := va_join (wr := []) (w1 := []) hP hD [0] [] rfl rfl (by decide) (by decide) hk1 hFc (fun k q h => by simp at h) ⟨fun i j p q h => by simp at h, fun k q h => by simp at h⟩
  have hK := hK.sub (tys' := []) [] rfl
  generalize H1 = H at hP hS ⊢
  have hP : va_P (dC, dI) vwCl [] H := hP
  have hD : va_D A [] := hD
  have hK : va_K (dC, dI) vwCl [] s := hK
  have h_6 := hw
  refine lv_icmp_eq (tgt := 1042) hx hb dL_law_274 (by decide) (fun c_7 => ?_) (fun c_7 => ?_)
  rotate_left
  · exact (c_7 (by rw [h_3, h_6]; simp only [ev_1, ev_4])).elim
  refine lv_iinc (v := 7) (lv' := [(4, .int 7), (0, .ref b), (1, .ref xX), (2, .ref yM), (3, .ref yO)]) hx hb dL_law_1042 hl (k := 4) rfl (by decide) (by decide) rfl (fun ls hl => ?_)
  refine lv_goto (tgt := 23) hx hb dL_law_1045 (by decide) ?_
  refine lv_iload hx hb dL_law_23 (lv_at hl 0 rfl) ?_
  refine lv_aload_n hx hb dL_law_25 rfl (lv_at hl 1 rfl) ?_
  refine va_slen hx hb hX hbl hbA hS dL_law_26 ?_
  refine my_ti (y := 7) (by rw [hL7]; rfl) ?_
  refine lv_bipush (v := 7) hx hb dL_law_27 (by decide) ?_
  refine lv_isub hx hb dL_law_29 ?_
  refine my_ti (y := 0) (by decide) ?_
  refine lv_icmp_gt (tgt := 1048) hx hb dL_law_30 (by decide) (fun c_8 => ?_) (fun c_8 => ?_)
  rotate_left
  · exact (c_8 (by decide)).elim
  refine lv_iconst (v := 1) hx hb dL_law_1048 (by decide) ?_
  refine va_forget (fun q hq => by have h9 := hS.2.2 q hq; rw [hAe] at h9; exact h9) ?_
  refine W.widen (k := 600002) (n := 7302232) (Nat.le_of_ble_eq_true rfl) (Nat.le_of_ble_eq_true rfl) ?_
  exact lw_ret hx hb hr hlocks dL_law_1049
set_option maxHeartbeats 4000000 in
set_option maxRecDepth 100000 in
theorem law_3 {p : Program} {e : Env} {s : State} {m : MethodId} {below : List Frame} {meth : Method} {c : Code} (l : Launch) {b L : Nat} {xs : Nat → Int32} (hL7 : L = 7) (C0 : lw_At p s m meth c b L xs) (dC : Nat → ClassId) (dI : Nat → Nat → Nat) (A : Nat → Prop) (hAe : A = fun q => s.heap.size ≤ q) (yO : Nat) (xX : Nat) (xT : Nat) (xW : Nat) (xR : Nat) (xM : Nat) (xS : Nat) (xRo : Nat) (xPe : Nat) (xWh : Nat) (xTr : Nat) (xCo : Nat) (xAl : Nat) (xNl : Nat) (xDr : Nat) (xFa : Nat) (xLe : Nat) (cLe : ClassId) (fL : Nat → Int32) (yM : Nat) (yT : Nat) (yF : Nat) (vq5 : Value) (vq9 : Value) (vq10 : Value) (vq11 : Value) (vq12 : Value) (vq13 : Value) (vq14 : Value) (vq15 : Value) (vq16 : Value) (vq17 : Value) (vq18 : Value) (yC : Nat) (vq20 : Value) (vq21 : Value) (vq22 : Value) (vq23 : Value) (vq24 : Value) (vq25 : Value) (vq26 : Value) (vq27 : Value) (vq28 : Value) (vq29 : Value) (vq30 : Value) (vq31 : Value) (yL : Nat) (yD : Nat) (yB : Nat) (vq50 : Value) (vq51 : Value) (vq52 : Value) (vq53 : Value) (vq54 : Value) (vq55 : Value) (vq56 : Value) (vq57 : Value) (vq64 : Value) (vq65 : Value) (vq68 : Value) (vq69 : Value) (vq70 : Value) (vq71 : Value) (vq72 : Value) (vq73 : Value) (vq74 : Value) (vq75 : Value) (vq76 : Value) (vq77 : Value) (vq78 : Value) (vq79 : Value) (vq80 : Value) (vq81 : Value) (vq82 : Value) (vq83 : Value) (vq88 : Value) (vq90 : Value) (vq91 : Value) (vq92 : Value) (vq93 : Value) (vq94 : Value) (kyF : ClassId) (H : Heap) (locs : List Loc) (hK : va_K (dC, dI) vwCl [(cLe, .int), (kyF, .int)] s) (hP : va_P (dC, dI) vwCl [(xX, .inr (11, [.ref xT, .int 0, .ref xW, .ref xR, .ref xM, .ref xS, .int (-1), .int 0, .int (-1)])), (xW, .inr (7, [.ref xRo, .ref xPe, .ref xWh, .ref xTr, .ref xCo, .int 0, .ref xAl, .ref xNl, .ref xDr, .int 0, .ref xFa, .int 0, .int 0, .int 0])), (xRo, .inr (5, [.ref xLe, .int 0])), (xLe, .inl (cLe, 144, .inl fL)), (yM, .inr (12, [.int 0, .ref yT, .int 0, .int 0, .ref yF, vq5, .int 0, .int 0, .int 0, vq9, vq10, vq11, vq12, vq13, vq14, vq15, vq16, vq17, vq18, .ref yC, vq20, vq21, vq22, vq23, vq24, vq25, vq26, vq27, vq28, vq29, vq30, vq31, .int 0, .int 0, .int 0, .int 0, .int 0, .int 0, .int 0, .int 0, .int 0, .int 0, .int 0, .int 0, .int 0, .int 0, .long 0, .ref yL, .ref yD, .ref yB, vq50, vq51, vq52, vq53, vq54, vq55, vq56, vq57, .int 0, .int 0, .int 0, .int 0, .int 0, .int 0, vq64, vq65, .int (-1), .int (-1), vq68, vq69, vq70, vq71, vq72, vq73, vq74, vq75, vq76, vq77, vq78, vq79, vq80, vq81, vq82, vq83, .int 0, .int 0, .int (-1), .int 0, vq88, .int 0, vq90, vq91, vq92, vq93, vq94, .int 0])), (yF, .inl (kyF, 144, .inl (fun _ => 0)))] H) (hD : va_D A [(xX, .inr (11, [.ref xT, .int 0, .ref xW, .ref xR, .ref xM, .ref xS, .int (-1), .int 0, .int (-1)])), (xW, .inr (7, [.ref xRo, .ref xPe, .ref xWh, .ref xTr, .ref xCo, .int 0, .ref xAl, .ref xNl, .ref xDr, .int 0, .ref xFa, .int 0, .int 0, .int 0])), (xRo, .inr (5, [.ref xLe, .int 0])), (xLe, .inl (cLe, 144, .inl fL)), (yM, .inr (12, [.int 0, .ref yT, .int 0, .int 0, .ref yF, vq5, .int 0, .int 0, .int 0, vq9, vq10, vq11, vq12, vq13, vq14, vq15, vq16, vq17, vq18, .ref yC, vq20, vq21, vq22, vq23, vq24, vq25, vq26, vq27, vq28, vq29, vq30, vq31, .int 0, .int 0, .int 0, .int 0, .int 0, .int 0, .int 0, .int 0, .int 0, .int 0, .int 0, .int 0, .int 0, .int 0, .long 0, .ref yL, .ref yD, .ref yB, vq50, vq51, vq52, vq53, vq54, vq55, vq56, vq57, .int 0, .int 0, .int 0, .int 0, .int 0, .int 0, vq64, vq65, .int (-1), .int (-1), vq68, vq69, vq70, vq71, vq72, vq73, vq74, vq75, vq76, vq77, vq78, vq79, vq80, vq81, vq82, vq83, .int 0, .int 0, .int (-1), .int 0, vq88, .int 0, vq90, vq91, vq92, vq93, vq94, .int 0])), (yF, .inl (kyF, 144, .inl (fun _ => 0)))]) (hS : va_S A s.heap H locs) (ls : Array Slot) (hl : lv_has ls 7 [(0, .ref b), (1, .ref xX), (2, .ref yM), (3, .ref yO), (4, .int 0)]) : W p l e room_1 s m #[Value.ref b] below meth c H locs 156 13846 (lw_Z below #[Value.ref b] s) (F0 m 279 ls []) := by
  obtain ⟨hx, hb, hr, hml, hown, hts0, hX, hbl, hlocks, hgv⟩ := id C0
  have hb : c.code = cL_law := hb
  have hown : s.vm.findClass RL = some m.cls := hown
  have hts : ∀ w ∈ (.initialized RL :: lw_good : List Cond), w.before #[Value.ref b] s = true := fun w h => (List.mem_cons.mp h).elim (fun q => by rw [q]; exact hts0 _ (lwgT kw_1_0)) (fun q => hts0 w (lwgT q))
  have hA : ∀ q : Nat, s.heap.size ≤ q → A q := fun q h => by rw [hAe]; exact h
  have hbA : ¬ A b := by rw [hAe]; exact Nat.not_le.mpr hbl
  refine lv_aload_n hx hb dL_law_279 rfl (lv_at hl 1 rfl) ?_
  refine lv_aload_n hx hb dL_law_280 rfl (lv_at hl 0 rfl) ?_
  refine lv_iload hx hb dL_law_281 (lv_at hl 4 rfl) ?_
  refine lv_iconst (v := 1) hx hb dL_law_283 (by decide) ?_
  refine lv_iadd hx hb dL_law_284 ?_
  refine my_ti (y := 1) (by decide) ?_
  refine va_sld hx hb hX hbl hbA hS (by rw [hL7]; unfold vp_in; decide) dL_law_285 ?_
  refine lv_topi (fun v_1 ev_1 => ?_)
  refine lv_aload_n hx hb dL_law_286 rfl (lv_at hl 0 rfl) ?_
  refine lv_iload hx hb dL_law_287 (lv_at hl 4 rfl) ?_
  refine lv_iconst (v := 2) hx hb dL_law_289 (by decide) ?_
  refine lv_iadd hx hb dL_law_290 ?_
  refine my_ti (y := 2) (by decide) ?_
  refine va_sld hx hb hX hbl hbA hS (by rw [hL7]; unfold vp_in; decide) dL_law_291 ?_
  refine lv_topi (fun v_2 ev_2 => ?_)
  refine lv_aload_n hx hb dL_law_292 rfl (lv_at hl 0 rfl) ?_
  refine lv_iload hx hb dL_law_293 (lv_at hl 4 rfl) ?_
  refine lv_iconst (v := 3) hx hb dL_law_295 (by decide) ?_
  refine lv_iadd hx hb dL_law_296 ?_
  refine my_ti (y := 3) (by decide) ?_
  refine va_sld hx hb hX hbl hbA hS (by rw [hL7]; unfold vp_in; decide) dL_law_297 ?_
  refine lv_topi (fun v_3 ev_3 => ?_)
  have hPc := hP.sub (ws' := [(xX, .inr (11, [.ref xT, .int 0, .ref xW, .ref xR, .ref xM, .ref xS, .int (-1), .int 0, .int (-1)])), (xW, .inr (7, [.ref xRo, .ref xPe, .ref xWh, .ref xTr, .ref xCo, .int 0, .ref xAl, .ref xNl, .ref xDr, .int 0, .ref xFa, .int 0, .int 0, .int 0])), (xRo, .inr (5, [.ref xLe, .int 0])), (xLe, .inl (cLe, 144, .inl fL))]) [0, 1, 2, 3] rfl
  have hDc := hD.sub (ws' := [(xX, .inr (11, [.ref xT, .int 0, .ref xW, .ref xR, .ref xM, .ref xS, .int (-1), .int 0, .int (-1)])), (xW, .inr (7, [.ref xRo, .ref xPe, .ref xWh, .ref xTr, .ref xCo, .int 0, .ref xAl, .ref xNl, .ref xDr, .int 0, .ref xFa, .int 0, .int 0, .int 0])), (xRo, .inr (5, [.ref xLe, .int 0])), (xLe, .inl (cLe, 144, .inl fL))]) [0, 1, 2, 3] (by decide) rfl
  have hKc := hK.sub (tys' := [(cLe, .int)]) [0] rfl
  have hFc := va_free (wc := [(xX, .inr (11, [.ref xT, .int 0, .ref xW, .ref xR, .ref xM, .ref xS, .int (-1), .int 0, .int (-1)])), (xW, .inr (7, [.ref xRo, .ref xPe, .ref xWh, .ref xTr, .ref xCo, .int 0, .ref xAl, .ref xNl, .ref xDr, .int 0, .ref xFa, .int 0, .int 0, .int 0])), (xRo, .inr (5, [.ref xLe, .int 0])), (xLe, .inl (cLe, 144, .inl fL))]) hD hS hA [0, 1, 2, 3] rfl
  refine va_calli (va_runV (As := [.int v_1, .int v_2, .int v_3]) (rest := []) ⟨hx, hb, hml, hown, hts⟩ (x_street l dC dI H.size v_1 v_2 v_3 xX xT xW xR xM xS xRo xPe xWh xTr xCo xAl xNl xDr xFa xLe cLe fL) (cwV 3 hts (gV kw_3_135 kw_3_136 kw_3_137 kw_1_1 kw_3_138) rfl rfl rfl (by decide +kernel) ⟨Nat.le_of_ble_eq_true rfl, Nat.le_of_ble_eq_true rfl⟩) ⟨fun a U g mk q => by obtain ⟨q0, q1, qP, qK, qD⟩ := q; exact ⟨q0, q1, qP, va_K.moved (u := U) (U := U.calling g mk a) (Vm.Alike.refl U.vm) qK, qD⟩, va_recv hKc hPc (ci := 11) (q0 := 0) rfl rfl, fun U hU hW => ⟨rfl, by rw [hU], by rw [hU]; exact hPc, va_K.moved hW.alike hKc, hDc.weaken (fun _ _ _ _ => trivial)⟩⟩ rfl rfl hl.1 rfl (lv_room (Nat.le_of_ble_eq_true rfl)) dL_law_298 ⟨Nat.le_of_ble_eq_true rfl, Nat.le_of_ble_eq_true rfl⟩) hS (fun q _ h => hFc q h) hFc (fun r_4 u t H1 locs ht hvm hw hB hz1 hk1 hS => ?_)
  obtain ⟨hP, hD⟩ := va_join (wr := [(yM, .inr (12, [.int 0, .ref yT, .int 0, .int 0, .ref yF, vq5, .int 0, .int 0, .int 0, vq9, vq10, vq11, vq12, vq13, vq14, vq15, vq16, vq17, vq18, .ref yC, vq20, vq21, vq22, vq23, vq24, vq25, vq26, vq27, vq28, vq29, vq30, vq31, .int 0, .int 0, .int 0, .int 0, .int 0, .int 0, .int 0, .int 0, .int 0, .int 0, .int 0, .int 0, .int 0, .int 0, .long 0, .ref yL, .ref yD, .ref yB, vq50, vq51, vq52, vq53, vq54, vq55, vq56, vq57, .int 0, .int 0, .int 0, .int 0, .int 0, .int 0, vq64, vq65, .int (-1), .int (-1), vq68, vq69, vq70, vq71, vq72, vq73, vq74, vq75, vq76, vq77, vq78, vq79, vq80, vq81, vq82, vq83, .int 0, .int 0, .int (-1), .int 0, vq88, .int 0, vq90, vq91, vq92, vq93, vq94, .int 0])), (yF, .inl (kyF, 144, .inl (fun _ => 0)))]) (w1 := []) hP hD [0, 1, 2, 3] [4, 5] rfl rfl (by decide) (by decide) hk1 hFc (fun k q h => by simp at h) ⟨fun i j p q h => by simp at h, fun k q h => by simp at h⟩
  have hK := hK.sub (tys' := [(kyF, .int)]) [1] rfl
  generalize H1 = H at hP hS ⊢
  have hP : va_P (dC, dI) vwCl [(yM, .inr (12, [.int 0, .ref yT, .int 0, .int 0, .ref yF, vq5, .int 0, .int 0, .int 0, vq9, vq10, vq11, vq12, vq13, vq14, vq15, vq16, vq17, vq18, .ref yC, vq20, vq21, vq22, vq23, vq24, vq25, vq26, vq27, vq28, vq29, vq30, vq31, .int 0, .int 0, .int 0, .int 0, .int 0, .int 0, .int 0, .int 0, .int 0, .int 0, .int 0, .int 0, .int 0, .int 0, .long 0, .ref yL, .ref yD, .ref yB, vq50, vq51, vq52, vq53, vq54, vq55, vq56, vq57, .int 0, .int 0, .int 0, .int 0, .int 0, .int 0, vq64, vq65, .int (-1), .int (-1), vq68, vq69, vq70, vq71, vq72, vq73, vq74, vq75, vq76, vq77, vq78, vq79, vq80, vq81, vq82, vq83, .int 0, .int 0, .int (-1), .int 0, vq88, .int 0, vq90, vq91, vq92, vq93, vq94, .int 0])), (yF, .inl (kyF, 144, .inl (fun _ => 0)))] H := hP
  have hD : va_D A [(yM, .inr (12, [.int 0, .ref yT, .int 0, .int 0, .ref yF, vq5, .int 0, .int 0, .int 0, vq9, vq10, vq11, vq12, vq13, vq14, vq15, vq16, vq17, vq18, .ref yC, vq20, vq21, vq22, vq23, vq24, vq25, vq26, vq27, vq28, vq29, vq30, vq31, .int 0, .int 0, .int 0, .int 0, .int 0, .int 0, .int 0, .int 0, .int 0, .int 0, .int 0, .int 0, .int 0, .int 0, .long 0, .ref yL, .ref yD, .ref yB, vq50, vq51, vq52, vq53, vq54, vq55, vq56, vq57, .int 0, .int 0, .int 0, .int 0, .int 0, .int 0, vq64, vq65, .int (-1), .int (-1), vq68, vq69, vq70, vq71, vq72, vq73, vq74, vq75, vq76, vq77, vq78, vq79, vq80, vq81, vq82, vq83, .int 0, .int 0, .int (-1), .int 0, vq88, .int 0, vq90, vq91, vq92, vq93, vq94, .int 0])), (yF, .inl (kyF, 144, .inl (fun _ => 0)))] := hD
  have hK : va_K (dC, dI) vwCl [(kyF, .int)] s := hK
  have h_5 := hw
  refine lv_aload_n hx hb dL_law_301 rfl (lv_at hl 2 rfl) ?_
  refine lv_aload_n hx hb dL_law_302 rfl (lv_at hl 0 rfl) ?_
  refine lv_iload hx hb dL_law_303 (lv_at hl 4 rfl) ?_
  refine lv_iconst (v := 1) hx hb dL_law_305 (by decide) ?_
  refine lv_iadd hx hb dL_law_306 ?_
  refine my_ti (y := 1) (by decide) ?_
  refine va_sld hx hb hX hbl hbA hS (by rw [hL7]; unfold vp_in; decide) dL_law_307 ?_
  refine lv_topi (fun v_6 ev_6 => ?_)
  refine lv_aload_n hx hb dL_law_308 rfl (lv_at hl 0 rfl) ?_
  refine lv_iload hx hb dL_law_309 (lv_at hl 4 rfl) ?_
  refine lv_iconst (v := 2) hx hb dL_law_311 (by decide) ?_
  refine lv_iadd hx hb dL_law_312 ?_
  refine my_ti (y := 2) (by decide) ?_
  refine va_sld hx hb hX hbl hbA hS (by rw [hL7]; unfold vp_in; decide) dL_law_313 ?_
  refine lv_topi (fun v_7 ev_7 => ?_)
  refine lv_aload_n hx hb dL_law_314 rfl (lv_at hl 0 rfl) ?_
  refine lv_iload hx hb dL_law_315 (lv_at hl 4 rfl) ?_
  refine lv_iconst (v := 3) hx hb dL_law_317 (by decide) ?_
  refine lv_iadd hx hb dL_law_318 ?_
  refine my_ti (y := 3) (by decide) ?_
  refine va_sld hx hb hX hbl hbA hS (by rw [hL7]; unfold vp_in; decide) dL_law_319 ?_
  refine lv_topi (fun v_8 ev_8 => ?_)
  have hPc := hP.sub (ws' := [(yM, .inr (12, [.int 0, .ref yT, .int 0, .int 0, .ref yF, vq5, .int 0, .int 0, .int 0, vq9, vq10, vq11, vq12, vq13, vq14, vq15, vq16, vq17, vq18, .ref yC, vq20, vq21, vq22, vq23, vq24, vq25, vq26, vq27, vq28, vq29, vq30, vq31, .int 0, .int 0, .int 0, .int 0, .int 0, .int 0, .int 0, .int 0, .int 0, .int 0, .int 0, .int 0, .int 0, .int 0, .long 0, .ref yL, .ref yD, .ref yB, vq50, vq51, vq52, vq53, vq54, vq55, vq56, vq57, .int 0, .int 0, .int 0, .int 0, .int 0, .int 0, vq64, vq65, .int (-1), .int (-1), vq68, vq69, vq70, vq71, vq72, vq73, vq74, vq75, vq76, vq77, vq78, vq79, vq80, vq81, vq82, vq83, .int 0, .int 0, .int (-1), .int 0, vq88, .int 0, vq90, vq91, vq92, vq93, vq94, .int 0])), (yF, .inl (kyF, 144, .inl (fun _ => 0)))]) [0, 1] rfl
  have hDc := hD.sub (ws' := [(yM, .inr (12, [.int 0, .ref yT, .int 0, .int 0, .ref yF, vq5, .int 0, .int 0, .int 0, vq9, vq10, vq11, vq12, vq13, vq14, vq15, vq16, vq17, vq18, .ref yC, vq20, vq21, vq22, vq23, vq24, vq25, vq26, vq27, vq28, vq29, vq30, vq31, .int 0, .int 0, .int 0, .int 0, .int 0, .int 0, .int 0, .int 0, .int 0, .int 0, .int 0, .int 0, .int 0, .int 0, .long 0, .ref yL, .ref yD, .ref yB, vq50, vq51, vq52, vq53, vq54, vq55, vq56, vq57, .int 0, .int 0, .int 0, .int 0, .int 0, .int 0, vq64, vq65, .int (-1), .int (-1), vq68, vq69, vq70, vq71, vq72, vq73, vq74, vq75, vq76, vq77, vq78, vq79, vq80, vq81, vq82, vq83, .int 0, .int 0, .int (-1), .int 0, vq88, .int 0, vq90, vq91, vq92, vq93, vq94, .int 0])), (yF, .inl (kyF, 144, .inl (fun _ => 0)))]) [0, 1] (by decide) rfl
  have hKc := hK.sub (tys' := [(kyF, .int)]) [0] rfl
  have hFc := va_free (wc := [(yM, .inr (12, [.int 0, .ref yT, .int 0, .int 0, .ref yF, vq5, .int 0, .int 0, .int 0, vq9, vq10, vq11, vq12, vq13, vq14, vq15, vq16, vq17, vq18, .ref yC, vq20, vq21, vq22, vq23, vq24, vq25, vq26, vq27, vq28, vq29, vq30, vq31, .int 0, .int 0, .int 0, .int 0, .int 0, .int 0, .int 0, .int 0, .int 0, .int 0, .int 0, .int 0, .int 0, .int 0, .long 0, .ref yL, .ref yD, .ref yB, vq50, vq51, vq52, vq53, vq54, vq55, vq56, vq57, .int 0, .int 0, .int 0, .int 0, .int 0, .int 0, vq64, vq65, .int (-1), .int (-1), vq68, vq69, vq70, vq71, vq72, vq73, vq74, vq75, vq76, vq77, vq78, vq79, vq80, vq81, vq82, vq83, .int 0, .int 0, .int (-1), .int 0, vq88, .int 0, vq90, vq91, vq92, vq93, vq94, .int 0])), (yF, .inl (kyF, 144, .inl (fun _ => 0)))]) hD hS hA [0, 1] rfl
  refine va_calli (va_runV (As := [.int v_6, .int v_7, .int v_8]) (rest := [.int r_4]) ⟨hx, hb, hml, hown, hts⟩ (m_street l dC dI H.size v_6 v_7 v_8 yM yT yF (vq5 : Value) (vq9 : Value) (vq10 : Value) (vq11 : Value) (vq12 : Value) (vq13 : Value) (vq14 : Value) (vq15 : Value) (vq16 : Value) (vq17 : Value) (vq18 : Value) yC (vq20 : Value) (vq21 : Value) (vq22 : Value) (vq23 : Value) (vq24 : Value) (vq25 : Value) (vq26 : Value) (vq27 : Value) (vq28 : Value) (vq29 : Value) (vq30 : Value) (vq31 : Value) yL yD yB (vq50 : Value) (vq51 : Value) (vq52 : Value) (vq53 : Value) (vq54 : Value) (vq55 : Value) (vq56 : Value) (vq57 : Value) (vq64 : Value) (vq65 : Value) (vq68 : Value) (vq69 : Value) (vq70 : Value) (vq71 : Value) (vq72 : Value) (vq73 : Value) (vq74 : Value) (vq75 : Value) (vq76 : Value) (vq77 : Value) (vq78 : Value) (vq79 : Value) (vq80 : Value) (vq81 : Value) (vq82 : Value) (vq83 : Value) (vq88 : Value) (vq90 : Value) (vq91 : Value) (vq92 : Value) (vq93 : Value) (vq94 : Value) kyF) (cwV 3 hts (gV kw_7_222 kw_7_223 kw_7_224 kw_1_15 kw_7_225) rfl rfl rfl (by decide +kernel) ⟨Nat.le_of_ble_eq_true rfl, Nat.le_of_ble_eq_true rfl⟩) ⟨fun a U g mk q => by obtain ⟨q0, q1, qP, qK, qD⟩ := q; exact ⟨q0, q1, qP, va_K.moved (u := U) (U := U.calling g mk a) (Vm.Alike.refl U.vm) qK, qD⟩, va_recv hKc hPc (ci := 12) (q0 := 0) rfl rfl, fun U hU hW => ⟨rfl, by rw [hU], by rw [hU]; exact hPc, va_K.moved hW.alike hKc, hDc.weaken (fun _ _ _ _ => trivial)⟩⟩ rfl rfl hl.1 rfl (lv_room (Nat.le_of_ble_eq_true rfl)) dL_law_320 ⟨Nat.le_of_ble_eq_true rfl, Nat.le_of_ble_eq_true rfl⟩) hS (fun q _ h => hFc q h) hFc (fun r_9 u t H1 locs ht hvm hw hB hz1 hk1 hS => ?_)
  obtain ⟨hP, hD⟩ := va_join (wr := []) (w1 := []) hP hD [0, 1] [] rfl rfl (by decide) (by decide) hk1 hFc (fun k q h => by simp at h) ⟨fun i j p q h => by simp at h, fun k q h => by simp at h⟩
  have hK := hK.sub (tys' := []) [] rfl
  generalize H1 = H at hP hS ⊢
  have hP : va_P (dC, dI) vwCl [] H := hP
  have hD : va_D A [] := hD
  have hK : va_K (dC, dI) vwCl [] s := hK
  have h_10 := hw
  refine lv_icmp_eq (tgt := 1042) hx hb dL_law_323 (by decide) (fun c_11 => ?_) (fun c_11 => ?_)
  rotate_left
  · exact (c_11 (by rw [h_5, h_10]; simp only [ev_1, ev_2, ev_3, ev_6, ev_7, ev_8])).elim
  refine lv_iinc (v := 7) (lv' := [(4, .int 7), (0, .ref b), (1, .ref xX), (2, .ref yM), (3, .ref yO)]) hx hb dL_law_1042 hl (k := 4) rfl (by decide) (by decide) rfl (fun ls hl => ?_)
  refine lv_goto (tgt := 23) hx hb dL_law_1045 (by decide) ?_
  refine lv_iload hx hb dL_law_23 (lv_at hl 0 rfl) ?_
  refine lv_aload_n hx hb dL_law_25 rfl (lv_at hl 1 rfl) ?_
  refine va_slen hx hb hX hbl hbA hS dL_law_26 ?_
  refine my_ti (y := 7) (by rw [hL7]; rfl) ?_
  refine lv_bipush (v := 7) hx hb dL_law_27 (by decide) ?_
  refine lv_isub hx hb dL_law_29 ?_
  refine my_ti (y := 0) (by decide) ?_
  refine lv_icmp_gt (tgt := 1048) hx hb dL_law_30 (by decide) (fun c_12 => ?_) (fun c_12 => ?_)
  rotate_left
  · exact (c_12 (by decide)).elim
  refine lv_iconst (v := 1) hx hb dL_law_1048 (by decide) ?_
  refine va_forget (fun q hq => by have h9 := hS.2.2 q hq; rw [hAe] at h9; exact h9) ?_
  refine W.widen (k := 600002) (n := 7302232) (Nat.le_of_ble_eq_true rfl) (Nat.le_of_ble_eq_true rfl) ?_
  exact lw_ret hx hb hr hlocks dL_law_1049
set_option maxHeartbeats 4000000 in
set_option maxRecDepth 100000 in
theorem law_4 {p : Program} {e : Env} {s : State} {m : MethodId} {below : List Frame} {meth : Method} {c : Code} (l : Launch) {b L : Nat} {xs : Nat → Int32} (hL7 : L = 7) (C0 : lw_At p s m meth c b L xs) (dC : Nat → ClassId) (dI : Nat → Nat → Nat) (A : Nat → Prop) (hAe : A = fun q => s.heap.size ≤ q) (yO : Nat) (xX : Nat) (xT : Nat) (xW : Nat) (xR : Nat) (xM : Nat) (xS : Nat) (xRo : Nat) (xPe : Nat) (xWh : Nat) (xTr : Nat) (xCo : Nat) (xAl : Nat) (xNl : Nat) (xDr : Nat) (xFa : Nat) (xLe : Nat) (cLe : ClassId) (fL : Nat → Int32) (yM : Nat) (yT : Nat) (yF : Nat) (vq5 : Value) (vq9 : Value) (vq10 : Value) (vq11 : Value) (vq12 : Value) (vq13 : Value) (vq14 : Value) (vq15 : Value) (vq16 : Value) (vq17 : Value) (vq18 : Value) (yC : Nat) (vq20 : Value) (vq21 : Value) (vq22 : Value) (vq23 : Value) (vq24 : Value) (vq25 : Value) (vq26 : Value) (vq27 : Value) (vq28 : Value) (vq29 : Value) (vq30 : Value) (vq31 : Value) (yL : Nat) (yD : Nat) (yB : Nat) (vq50 : Value) (vq51 : Value) (vq52 : Value) (vq53 : Value) (vq54 : Value) (vq55 : Value) (vq56 : Value) (vq57 : Value) (vq64 : Value) (vq65 : Value) (vq68 : Value) (vq69 : Value) (vq70 : Value) (vq71 : Value) (vq72 : Value) (vq73 : Value) (vq74 : Value) (vq75 : Value) (vq76 : Value) (vq77 : Value) (vq78 : Value) (vq79 : Value) (vq80 : Value) (vq81 : Value) (vq82 : Value) (vq83 : Value) (vq88 : Value) (vq90 : Value) (vq91 : Value) (vq92 : Value) (vq93 : Value) (vq94 : Value) (kyF : ClassId) (hfar : ∀ k, k < 144 → fL k = roadsG k) (H : Heap) (locs : List Loc) (hK : va_K (dC, dI) vwCl [(cLe, .int), (kyF, .int)] s) (hP : va_P (dC, dI) vwCl [(xX, .inr (11, [.ref xT, .int 0, .ref xW, .ref xR, .ref xM, .ref xS, .int (-1), .int 0, .int (-1)])), (xW, .inr (7, [.ref xRo, .ref xPe, .ref xWh, .ref xTr, .ref xCo, .int 0, .ref xAl, .ref xNl, .ref xDr, .int 0, .ref xFa, .int 0, .int 0, .int 0])), (xRo, .inr (5, [.ref xLe, .int 0])), (xLe, .inl (cLe, 144, .inl fL)), (yM, .inr (12, [.int 0, .ref yT, .int 0, .int 0, .ref yF, vq5, .int 0, .int 0, .int 0, vq9, vq10, vq11, vq12, vq13, vq14, vq15, vq16, vq17, vq18, .ref yC, vq20, vq21, vq22, vq23, vq24, vq25, vq26, vq27, vq28, vq29, vq30, vq31, .int 0, .int 0, .int 0, .int 0, .int 0, .int 0, .int 0, .int 0, .int 0, .int 0, .int 0, .int 0, .int 0, .int 0, .long 0, .ref yL, .ref yD, .ref yB, vq50, vq51, vq52, vq53, vq54, vq55, vq56, vq57, .int 0, .int 0, .int 0, .int 0, .int 0, .int 0, vq64, vq65, .int (-1), .int (-1), vq68, vq69, vq70, vq71, vq72, vq73, vq74, vq75, vq76, vq77, vq78, vq79, vq80, vq81, vq82, vq83, .int 0, .int 0, .int (-1), .int 0, vq88, .int 0, vq90, vq91, vq92, vq93, vq94, .int 0])), (yF, .inl (kyF, 144, .inl (fun _ => 0)))] H) (hD : va_D A [(xX, .inr (11, [.ref xT, .int 0, .ref xW, .ref xR, .ref xM, .ref xS, .int (-1), .int 0, .int (-1)])), (xW, .inr (7, [.ref xRo, .ref xPe, .ref xWh, .ref xTr, .ref xCo, .int 0, .ref xAl, .ref xNl, .ref xDr, .int 0, .ref xFa, .int 0, .int 0, .int 0])), (xRo, .inr (5, [.ref xLe, .int 0])), (xLe, .inl (cLe, 144, .inl fL)), (yM, .inr (12, [.int 0, .ref yT, .int 0, .int 0, .ref yF, vq5, .int 0, .int 0, .int 0, vq9, vq10, vq11, vq12, vq13, vq14, vq15, vq16, vq17, vq18, .ref yC, vq20, vq21, vq22, vq23, vq24, vq25, vq26, vq27, vq28, vq29, vq30, vq31, .int 0, .int 0, .int 0, .int 0, .int 0, .int 0, .int 0, .int 0, .int 0, .int 0, .int 0, .int 0, .int 0, .int 0, .long 0, .ref yL, .ref yD, .ref yB, vq50, vq51, vq52, vq53, vq54, vq55, vq56, vq57, .int 0, .int 0, .int 0, .int 0, .int 0, .int 0, vq64, vq65, .int (-1), .int (-1), vq68, vq69, vq70, vq71, vq72, vq73, vq74, vq75, vq76, vq77, vq78, vq79, vq80, vq81, vq82, vq83, .int 0, .int 0, .int (-1), .int 0, vq88, .int 0, vq90, vq91, vq92, vq93, vq94, .int 0])), (yF, .inl (kyF, 144, .inl (fun _ => 0)))]) (hS : va_S A s.heap H locs) (ls : Array Slot) (hl : lv_has ls 7 [(0, .ref b), (1, .ref xX), (2, .ref yM), (3, .ref yO), (4, .int 0)]) : W p l e room_1 s m #[Value.ref b] below meth c H locs 156 13846 (lw_Z below #[Value.ref b] s) (F0 m 328 ls []) := by
  obtain ⟨hx, hb, hr, hml, hown, hts0, hX, hbl, hlocks, hgv⟩ := id C0
  have hb : c.code = cL_law := hb
  have hown : s.vm.findClass RL = some m.cls := hown
  have hts : ∀ w ∈ (.initialized RL :: lw_good : List Cond), w.before #[Value.ref b] s = true := fun w h => (List.mem_cons.mp h).elim (fun q => by rw [q]; exact hts0 _ (lwgT kw_1_0)) (fun q => hts0 w (lwgT q))
  have hA : ∀ q : Nat, s.heap.size ≤ q → A q := fun q h => by rw [hAe]; exact h
  have hbA : ¬ A b := by rw [hAe]; exact Nat.not_le.mpr hbl
  refine lv_aload_n hx hb dL_law_328 rfl (lv_at hl 1 rfl) ?_
  refine lv_aload_n hx hb dL_law_329 rfl (lv_at hl 0 rfl) ?_
  refine lv_iload hx hb dL_law_330 (lv_at hl 4 rfl) ?_
  refine lv_iconst (v := 1) hx hb dL_law_332 (by decide) ?_
  refine lv_iadd hx hb dL_law_333 ?_
  refine my_ti (y := 1) (by decide) ?_
  refine va_sld hx hb hX hbl hbA hS (by rw [hL7]; unfold vp_in; decide) dL_law_334 ?_
  refine lv_topi (fun v_1 ev_1 => ?_)
  refine lv_aload_n hx hb dL_law_335 rfl (lv_at hl 0 rfl) ?_
  refine lv_iload hx hb dL_law_336 (lv_at hl 4 rfl) ?_
  refine lv_iconst (v := 2) hx hb dL_law_338 (by decide) ?_
  refine lv_iadd hx hb dL_law_339 ?_
  refine my_ti (y := 2) (by decide) ?_
  refine va_sld hx hb hX hbl hbA hS (by rw [hL7]; unfold vp_in; decide) dL_law_340 ?_
  refine lv_topi (fun v_2 ev_2 => ?_)
  have hPc := hP.sub (ws' := [(xX, .inr (11, [.ref xT, .int 0, .ref xW, .ref xR, .ref xM, .ref xS, .int (-1), .int 0, .int (-1)])), (xW, .inr (7, [.ref xRo, .ref xPe, .ref xWh, .ref xTr, .ref xCo, .int 0, .ref xAl, .ref xNl, .ref xDr, .int 0, .ref xFa, .int 0, .int 0, .int 0])), (xRo, .inr (5, [.ref xLe, .int 0])), (xLe, .inl (cLe, 144, .inl fL))]) [0, 1, 2, 3] rfl
  have hDc := hD.sub (ws' := [(xX, .inr (11, [.ref xT, .int 0, .ref xW, .ref xR, .ref xM, .ref xS, .int (-1), .int 0, .int (-1)])), (xW, .inr (7, [.ref xRo, .ref xPe, .ref xWh, .ref xTr, .ref xCo, .int 0, .ref xAl, .ref xNl, .ref xDr, .int 0, .ref xFa, .int 0, .int 0, .int 0])), (xRo, .inr (5, [.ref xLe, .int 0])), (xLe, .inl (cLe, 144, .inl fL))]) [0, 1, 2, 3] (by decide) rfl
  have hKc := hK.sub (tys' := [(cLe, .int)]) [0] rfl
  have hFc := va_free (wc := [(xX, .inr (11, [.ref xT, .int 0, .ref xW, .ref xR, .ref xM, .ref xS, .int (-1), .int 0, .int (-1)])), (xW, .inr (7, [.ref xRo, .ref xPe, .ref xWh, .ref xTr, .ref xCo, .int 0, .ref xAl, .ref xNl, .ref xDr, .int 0, .ref xFa, .int 0, .int 0, .int 0])), (xRo, .inr (5, [.ref xLe, .int 0])), (xLe, .inl (cLe, 144, .inl fL))]) hD hS hA [0, 1, 2, 3] rfl
  refine va_calli (va_runV (As := [.int v_1, .int v_2]) (rest := []) ⟨hx, hb, hml, hown, hts⟩ (x_far l dC dI H.size v_1 v_2 xX xT xW xR xM xS xRo xPe xWh xTr xCo xAl xNl xDr xFa xLe cLe fL hfar) (cwV 2 hts (gV kw_3_153 kw_3_154 kw_3_155 kw_1_1 kw_3_156) rfl rfl rfl (by decide +kernel) ⟨Nat.le_of_ble_eq_true rfl, Nat.le_of_ble_eq_true rfl⟩) ⟨fun a U g mk q => by obtain ⟨q0, q1, qP, qK, qD⟩ := q; exact ⟨q0, q1, qP, va_K.moved (u := U) (U := U.calling g mk a) (Vm.Alike.refl U.vm) qK, qD⟩, va_recv hKc hPc (ci := 11) (q0 := 0) rfl rfl, fun U hU hW => ⟨rfl, by rw [hU], by rw [hU]; exact hPc, va_K.moved hW.alike hKc, hDc.weaken (fun _ _ _ _ => trivial)⟩⟩ rfl rfl hl.1 rfl (lv_room (Nat.le_of_ble_eq_true rfl)) dL_law_341 ⟨Nat.le_of_ble_eq_true rfl, Nat.le_of_ble_eq_true rfl⟩) hS (fun q _ h => hFc q h) hFc (fun r_3 u t H1 locs ht hvm hw hB hz1 hk1 hS => ?_)
  obtain ⟨hP, hD⟩ := va_join (wr := [(yM, .inr (12, [.int 0, .ref yT, .int 0, .int 0, .ref yF, vq5, .int 0, .int 0, .int 0, vq9, vq10, vq11, vq12, vq13, vq14, vq15, vq16, vq17, vq18, .ref yC, vq20, vq21, vq22, vq23, vq24, vq25, vq26, vq27, vq28, vq29, vq30, vq31, .int 0, .int 0, .int 0, .int 0, .int 0, .int 0, .int 0, .int 0, .int 0, .int 0, .int 0, .int 0, .int 0, .int 0, .long 0, .ref yL, .ref yD, .ref yB, vq50, vq51, vq52, vq53, vq54, vq55, vq56, vq57, .int 0, .int 0, .int 0, .int 0, .int 0, .int 0, vq64, vq65, .int (-1), .int (-1), vq68, vq69, vq70, vq71, vq72, vq73, vq74, vq75, vq76, vq77, vq78, vq79, vq80, vq81, vq82, vq83, .int 0, .int 0, .int (-1), .int 0, vq88, .int 0, vq90, vq91, vq92, vq93, vq94, .int 0])), (yF, .inl (kyF, 144, .inl (fun _ => 0)))]) (w1 := []) hP hD [0, 1, 2, 3] [4, 5] rfl rfl (by decide) (by decide) hk1 hFc (fun k q h => by simp at h) ⟨fun i j p q h => by simp at h, fun k q h => by simp at h⟩
  have hK := hK.sub (tys' := [(kyF, .int)]) [1] rfl
  generalize H1 = H at hP hS ⊢
  have hP : va_P (dC, dI) vwCl [(yM, .inr (12, [.int 0, .ref yT, .int 0, .int 0, .ref yF, vq5, .int 0, .int 0, .int 0, vq9, vq10, vq11, vq12, vq13, vq14, vq15, vq16, vq17, vq18, .ref yC, vq20, vq21, vq22, vq23, vq24, vq25, vq26, vq27, vq28, vq29, vq30, vq31, .int 0, .int 0, .int 0, .int 0, .int 0, .int 0, .int 0, .int 0, .int 0, .int 0, .int 0, .int 0, .int 0, .int 0, .long 0, .ref yL, .ref yD, .ref yB, vq50, vq51, vq52, vq53, vq54, vq55, vq56, vq57, .int 0, .int 0, .int 0, .int 0, .int 0, .int 0, vq64, vq65, .int (-1), .int (-1), vq68, vq69, vq70, vq71, vq72, vq73, vq74, vq75, vq76, vq77, vq78, vq79, vq80, vq81, vq82, vq83, .int 0, .int 0, .int (-1), .int 0, vq88, .int 0, vq90, vq91, vq92, vq93, vq94, .int 0])), (yF, .inl (kyF, 144, .inl (fun _ => 0)))] H := hP
  have hD : va_D A [(yM, .inr (12, [.int 0, .ref yT, .int 0, .int 0, .ref yF, vq5, .int 0, .int 0, .int 0, vq9, vq10, vq11, vq12, vq13, vq14, vq15, vq16, vq17, vq18, .ref yC, vq20, vq21, vq22, vq23, vq24, vq25, vq26, vq27, vq28, vq29, vq30, vq31, .int 0, .int 0, .int 0, .int 0, .int 0, .int 0, .int 0, .int 0, .int 0, .int 0, .int 0, .int 0, .int 0, .int 0, .long 0, .ref yL, .ref yD, .ref yB, vq50, vq51, vq52, vq53, vq54, vq55, vq56, vq57, .int 0, .int 0, .int 0, .int 0, .int 0, .int 0, vq64, vq65, .int (-1), .int (-1), vq68, vq69, vq70, vq71, vq72, vq73, vq74, vq75, vq76, vq77, vq78, vq79, vq80, vq81, vq82, vq83, .int 0, .int 0, .int (-1), .int 0, vq88, .int 0, vq90, vq91, vq92, vq93, vq94, .int 0])), (yF, .inl (kyF, 144, .inl (fun _ => 0)))] := hD
  have hK : va_K (dC, dI) vwCl [(kyF, .int)] s := hK
  have h_4 := hw
  refine lv_aload_n hx hb dL_law_344 rfl (lv_at hl 2 rfl) ?_
  refine lv_aload_n hx hb dL_law_345 rfl (lv_at hl 0 rfl) ?_
  refine lv_iload hx hb dL_law_346 (lv_at hl 4 rfl) ?_
  refine lv_iconst (v := 1) hx hb dL_law_348 (by decide) ?_
  refine lv_iadd hx hb dL_law_349 ?_
  refine my_ti (y := 1) (by decide) ?_
  refine va_sld hx hb hX hbl hbA hS (by rw [hL7]; unfold vp_in; decide) dL_law_350 ?_
  refine lv_topi (fun v_5 ev_5 => ?_)
  refine lv_aload_n hx hb dL_law_351 rfl (lv_at hl 0 rfl) ?_
  refine lv_iload hx hb dL_law_352 (lv_at hl 4 rfl) ?_
  refine lv_iconst (v := 2) hx hb dL_law_354 (by decide) ?_
  refine lv_iadd hx hb dL_law_355 ?_
  refine my_ti (y := 2) (by decide) ?_
  refine va_sld hx hb hX hbl hbA hS (by rw [hL7]; unfold vp_in; decide) dL_law_356 ?_
  refine lv_topi (fun v_6 ev_6 => ?_)
  have hPc := hP.sub (ws' := [(yM, .inr (12, [.int 0, .ref yT, .int 0, .int 0, .ref yF, vq5, .int 0, .int 0, .int 0, vq9, vq10, vq11, vq12, vq13, vq14, vq15, vq16, vq17, vq18, .ref yC, vq20, vq21, vq22, vq23, vq24, vq25, vq26, vq27, vq28, vq29, vq30, vq31, .int 0, .int 0, .int 0, .int 0, .int 0, .int 0, .int 0, .int 0, .int 0, .int 0, .int 0, .int 0, .int 0, .int 0, .long 0, .ref yL, .ref yD, .ref yB, vq50, vq51, vq52, vq53, vq54, vq55, vq56, vq57, .int 0, .int 0, .int 0, .int 0, .int 0, .int 0, vq64, vq65, .int (-1), .int (-1), vq68, vq69, vq70, vq71, vq72, vq73, vq74, vq75, vq76, vq77, vq78, vq79, vq80, vq81, vq82, vq83, .int 0, .int 0, .int (-1), .int 0, vq88, .int 0, vq90, vq91, vq92, vq93, vq94, .int 0])), (yF, .inl (kyF, 144, .inl (fun _ => 0)))]) [0, 1] rfl
  have hDc := hD.sub (ws' := [(yM, .inr (12, [.int 0, .ref yT, .int 0, .int 0, .ref yF, vq5, .int 0, .int 0, .int 0, vq9, vq10, vq11, vq12, vq13, vq14, vq15, vq16, vq17, vq18, .ref yC, vq20, vq21, vq22, vq23, vq24, vq25, vq26, vq27, vq28, vq29, vq30, vq31, .int 0, .int 0, .int 0, .int 0, .int 0, .int 0, .int 0, .int 0, .int 0, .int 0, .int 0, .int 0, .int 0, .int 0, .long 0, .ref yL, .ref yD, .ref yB, vq50, vq51, vq52, vq53, vq54, vq55, vq56, vq57, .int 0, .int 0, .int 0, .int 0, .int 0, .int 0, vq64, vq65, .int (-1), .int (-1), vq68, vq69, vq70, vq71, vq72, vq73, vq74, vq75, vq76, vq77, vq78, vq79, vq80, vq81, vq82, vq83, .int 0, .int 0, .int (-1), .int 0, vq88, .int 0, vq90, vq91, vq92, vq93, vq94, .int 0])), (yF, .inl (kyF, 144, .inl (fun _ => 0)))]) [0, 1] (by decide) rfl
  have hKc := hK.sub (tys' := [(kyF, .int)]) [0] rfl
  have hFc := va_free (wc := [(yM, .inr (12, [.int 0, .ref yT, .int 0, .int 0, .ref yF, vq5, .int 0, .int 0, .int 0, vq9, vq10, vq11, vq12, vq13, vq14, vq15, vq16, vq17, vq18, .ref yC, vq20, vq21, vq22, vq23, vq24, vq25, vq26, vq27, vq28, vq29, vq30, vq31, .int 0, .int 0, .int 0, .int 0, .int 0, .int 0, .int 0, .int 0, .int 0, .int 0, .int 0, .int 0, .int 0, .int 0, .long 0, .ref yL, .ref yD, .ref yB, vq50, vq51, vq52, vq53, vq54, vq55, vq56, vq57, .int 0, .int 0, .int 0, .int 0, .int 0, .int 0, vq64, vq65, .int (-1), .int (-1), vq68, vq69, vq70, vq71, vq72, vq73, vq74, vq75, vq76, vq77, vq78, vq79, vq80, vq81, vq82, vq83, .int 0, .int 0, .int (-1), .int 0, vq88, .int 0, vq90, vq91, vq92, vq93, vq94, .int 0])), (yF, .inl (kyF, 144, .inl (fun _ => 0)))]) hD hS hA [0, 1] rfl
  refine va_calli (va_runV (As := [.int v_5, .int v_6]) (rest := [.int r_3]) ⟨hx, hb, hml, hown, hts⟩ (m_far l dC dI H.size v_5 v_6 yM yT yF (vq5 : Value) (vq9 : Value) (vq10 : Value) (vq11 : Value) (vq12 : Value) (vq13 : Value) (vq14 : Value) (vq15 : Value) (vq16 : Value) (vq17 : Value) (vq18 : Value) yC (vq20 : Value) (vq21 : Value) (vq22 : Value) (vq23 : Value) (vq24 : Value) (vq25 : Value) (vq26 : Value) (vq27 : Value) (vq28 : Value) (vq29 : Value) (vq30 : Value) (vq31 : Value) yL yD yB (vq50 : Value) (vq51 : Value) (vq52 : Value) (vq53 : Value) (vq54 : Value) (vq55 : Value) (vq56 : Value) (vq57 : Value) (vq64 : Value) (vq65 : Value) (vq68 : Value) (vq69 : Value) (vq70 : Value) (vq71 : Value) (vq72 : Value) (vq73 : Value) (vq74 : Value) (vq75 : Value) (vq76 : Value) (vq77 : Value) (vq78 : Value) (vq79 : Value) (vq80 : Value) (vq81 : Value) (vq82 : Value) (vq83 : Value) (vq88 : Value) (vq90 : Value) (vq91 : Value) (vq92 : Value) (vq93 : Value) (vq94 : Value) kyF) (cwV 2 hts (gV kw_7_234 kw_7_235 kw_7_236 kw_1_15 kw_7_237) rfl rfl rfl (by decide +kernel) ⟨Nat.le_of_ble_eq_true rfl, Nat.le_of_ble_eq_true rfl⟩) ⟨fun a U g mk q => by obtain ⟨q0, q1, qP, qK, qD⟩ := q; exact ⟨q0, q1, qP, va_K.moved (u := U) (U := U.calling g mk a) (Vm.Alike.refl U.vm) qK, qD⟩, va_recv hKc hPc (ci := 12) (q0 := 0) rfl rfl, fun U hU hW => ⟨rfl, by rw [hU], by rw [hU]; exact hPc, va_K.moved hW.alike hKc, hDc.weaken (fun _ _ _ _ => trivial)⟩⟩ rfl rfl hl.1 rfl (lv_room (Nat.le_of_ble_eq_true rfl)) dL_law_357 ⟨Nat.le_of_ble_eq_true rfl, Nat.le_of_ble_eq_true rfl⟩) hS (fun q _ h => hFc q h) hFc (fun r_7 u t H1 locs ht hvm hw hB hz1 hk1 hS => ?_)
  obtain ⟨hP, hD⟩ := va_join (wr := []) (w1 := []) hP hD [0, 1] [] rfl rfl (by decide) (by decide) hk1 hFc (fun k q h => by simp at h) ⟨fun i j p q h => by simp at h, fun k q h => by simp at h⟩
  have hK := hK.sub (tys' := []) [] rfl
  generalize H1 = H at hP hS ⊢
  have hP : va_P (dC, dI) vwCl [] H := hP
  have hD : va_D A [] := hD
  have hK : va_K (dC, dI) vwCl [] s := hK
  have h_8 := hw
  refine lv_icmp_eq (tgt := 1042) hx hb dL_law_360 (by decide) (fun c_9 => ?_) (fun c_9 => ?_)
  rotate_left
  · exact (c_9 (by rw [h_4, h_8]; simp only [ev_1, ev_2, ev_5, ev_6])).elim
  refine lv_iinc (v := 7) (lv' := [(4, .int 7), (0, .ref b), (1, .ref xX), (2, .ref yM), (3, .ref yO)]) hx hb dL_law_1042 hl (k := 4) rfl (by decide) (by decide) rfl (fun ls hl => ?_)
  refine lv_goto (tgt := 23) hx hb dL_law_1045 (by decide) ?_
  refine lv_iload hx hb dL_law_23 (lv_at hl 0 rfl) ?_
  refine lv_aload_n hx hb dL_law_25 rfl (lv_at hl 1 rfl) ?_
  refine va_slen hx hb hX hbl hbA hS dL_law_26 ?_
  refine my_ti (y := 7) (by rw [hL7]; rfl) ?_
  refine lv_bipush (v := 7) hx hb dL_law_27 (by decide) ?_
  refine lv_isub hx hb dL_law_29 ?_
  refine my_ti (y := 0) (by decide) ?_
  refine lv_icmp_gt (tgt := 1048) hx hb dL_law_30 (by decide) (fun c_10 => ?_) (fun c_10 => ?_)
  rotate_left
  · exact (c_10 (by decide)).elim
  refine lv_iconst (v := 1) hx hb dL_law_1048 (by decide) ?_
  refine va_forget (fun q hq => by have h9 := hS.2.2 q hq; rw [hAe] at h9; exact h9) ?_
  refine W.widen (k := 600002) (n := 7302232) (Nat.le_of_ble_eq_true rfl) (Nat.le_of_ble_eq_true rfl) ?_
  exact lw_ret hx hb hr hlocks dL_law_1049
set_option maxHeartbeats 4000000 in
set_option maxRecDepth 100000 in
theorem law_5 {p : Program} {e : Env} {s : State} {m : MethodId} {below : List Frame} {meth : Method} {c : Code} (l : Launch) {b L : Nat} {xs : Nat → Int32} (hL7 : L = 7) (C0 : lw_At p s m meth c b L xs) (dC : Nat → ClassId) (dI : Nat → Nat → Nat) (A : Nat → Prop) (hAe : A = fun q => s.heap.size ≤ q) (yO : Nat) (xX : Nat) (xT : Nat) (xW : Nat) (xR : Nat) (xM : Nat) (xS : Nat) (yM : Nat) (yT : Nat) (yF : Nat) (vq5 : Value) (vq9 : Value) (vq10 : Value) (vq11 : Value) (vq12 : Value) (vq13 : Value) (vq14 : Value) (vq15 : Value) (vq16 : Value) (vq17 : Value) (vq18 : Value) (yC : Nat) (vq20 : Value) (vq21 : Value) (vq22 : Value) (vq23 : Value) (vq24 : Value) (vq25 : Value) (vq26 : Value) (vq27 : Value) (vq28 : Value) (vq29 : Value) (vq30 : Value) (vq31 : Value) (yL : Nat) (yD : Nat) (yB : Nat) (vq50 : Value) (vq51 : Value) (vq52 : Value) (vq53 : Value) (vq54 : Value) (vq55 : Value) (vq56 : Value) (vq57 : Value) (vq64 : Value) (vq65 : Value) (vq68 : Value) (vq69 : Value) (vq70 : Value) (vq71 : Value) (vq72 : Value) (vq73 : Value) (vq74 : Value) (vq75 : Value) (vq76 : Value) (vq77 : Value) (vq78 : Value) (vq79 : Value) (vq80 : Value) (vq81 : Value) (vq82 : Value) (vq83 : Value) (vq88 : Value) (vq90 : Value) (vq91 : Value) (vq92 : Value) (vq93 : Value) (vq94 : Value) (H : Heap) (locs : List Loc) (hK : va_K (dC, dI) vwCl [] s) (hP : va_P (dC, dI) vwCl [(xX, .inr (11, [.ref xT, .int 0, .ref xW, .ref xR, .ref xM, .ref xS, .int (-1), .int 0, .int (-1)])), (yM, .inr (12, [.int 0, .ref yT, .int 0, .int 0, .ref yF, vq5, .int 0, .int 0, .int 0, vq9, vq10, vq11, vq12, vq13, vq14, vq15, vq16, vq17, vq18, .ref yC, vq20, vq21, vq22, vq23, vq24, vq25, vq26, vq27, vq28, vq29, vq30, vq31, .int 0, .int 0, .int 0, .int 0, .int 0, .int 0, .int 0, .int 0, .int 0, .int 0, .int 0, .int 0, .int 0, .int 0, .long 0, .ref yL, .ref yD, .ref yB, vq50, vq51, vq52, vq53, vq54, vq55, vq56, vq57, .int 0, .int 0, .int 0, .int 0, .int 0, .int 0, vq64, vq65, .int (-1), .int (-1), vq68, vq69, vq70, vq71, vq72, vq73, vq74, vq75, vq76, vq77, vq78, vq79, vq80, vq81, vq82, vq83, .int 0, .int 0, .int (-1), .int 0, vq88, .int 0, vq90, vq91, vq92, vq93, vq94, .int 0]))] H) (hD : va_D A [(xX, .inr (11, [.ref xT, .int 0, .ref xW, .ref xR, .ref xM, .ref xS, .int (-1), .int 0, .int (-1)])), (yM, .inr (12, [.int 0, .ref yT, .int 0, .int 0, .ref yF, vq5, .int 0, .int 0, .int 0, vq9, vq10, vq11, vq12, vq13, vq14, vq15, vq16, vq17, vq18, .ref yC, vq20, vq21, vq22, vq23, vq24, vq25, vq26, vq27, vq28, vq29, vq30, vq31, .int 0, .int 0, .int 0, .int 0, .int 0, .int 0, .int 0, .int 0, .int 0, .int 0, .int 0, .int 0, .int 0, .int 0, .long 0, .ref yL, .ref yD, .ref yB, vq50, vq51, vq52, vq53, vq54, vq55, vq56, vq57, .int 0, .int 0, .int 0, .int 0, .int 0, .int 0, vq64, vq65, .int (-1), .int (-1), vq68, vq69, vq70, vq71, vq72, vq73, vq74, vq75, vq76, vq77, vq78, vq79, vq80, vq81, vq82, vq83, .int 0, .int 0, .int (-1), .int 0, vq88, .int 0, vq90, vq91, vq92, vq93, vq94, .int 0]))]) (hS : va_S A s.heap H locs) (ls : Array Slot) (hl : lv_has ls 7 [(0, .ref b), (1, .ref xX), (2, .ref yM), (3, .ref yO), (4, .int 0)]) : W p l e room_1 s m #[Value.ref b] below meth c H locs 156 13846 (lw_Z below #[Value.ref b] s) (F0 m 365 ls []) := by
  obtain ⟨hx, hb, hr, hml, hown, hts0, hX, hbl, hlocks, hgv⟩ := id C0
  have hb : c.code = cL_law := hb
  have hown : s.vm.findClass RL = some m.cls := hown
  have hts : ∀ w ∈ (.initialized RL :: lw_good : List Cond), w.before #[Value.ref b] s = true := fun w h => (List.mem_cons.mp h).elim (fun q => by rw [q]; exact hts0 _ (lwgT kw_1_0)) (fun q => hts0 w (lwgT q))
  have hA : ∀ q : Nat, s.heap.size ≤ q → A q := fun q h => by rw [hAe]; exact h
  have hbA : ¬ A b := by rw [hAe]; exact Nat.not_le.mpr hbl
  refine lv_aload_n hx hb dL_law_365 rfl (lv_at hl 1 rfl) ?_
  refine lv_aload_n hx hb dL_law_366 rfl (lv_at hl 0 rfl) ?_
  refine lv_iload hx hb dL_law_367 (lv_at hl 4 rfl) ?_
  refine lv_iconst (v := 1) hx hb dL_law_369 (by decide) ?_
  refine lv_iadd hx hb dL_law_370 ?_
  refine my_ti (y := 1) (by decide) ?_
  refine va_sld hx hb hX hbl hbA hS (by rw [hL7]; unfold vp_in; decide) dL_law_371 ?_
  refine lv_topi (fun v_1 ev_1 => ?_)
  refine lv_aload_n hx hb dL_law_372 rfl (lv_at hl 0 rfl) ?_
  refine lv_iload hx hb dL_law_373 (lv_at hl 4 rfl) ?_
  refine lv_iconst (v := 2) hx hb dL_law_375 (by decide) ?_
  refine lv_iadd hx hb dL_law_376 ?_
  refine my_ti (y := 2) (by decide) ?_
  refine va_sld hx hb hX hbl hbA hS (by rw [hL7]; unfold vp_in; decide) dL_law_377 ?_
  refine lv_topi (fun v_2 ev_2 => ?_)
  refine lv_aload_n hx hb dL_law_378 rfl (lv_at hl 0 rfl) ?_
  refine lv_iload hx hb dL_law_379 (lv_at hl 4 rfl) ?_
  refine lv_iconst (v := 3) hx hb dL_law_381 (by decide) ?_
  refine lv_iadd hx hb dL_law_382 ?_
  refine my_ti (y := 3) (by decide) ?_
  refine va_sld hx hb hX hbl hbA hS (by rw [hL7]; unfold vp_in; decide) dL_law_383 ?_
  refine lv_topi (fun v_3 ev_3 => ?_)
  have hPc := hP.sub (ws' := [(xX, .inr (11, [.ref xT, .int 0, .ref xW, .ref xR, .ref xM, .ref xS, .int (-1), .int 0, .int (-1)]))]) [0] rfl
  have hDc := hD.sub (ws' := [(xX, .inr (11, [.ref xT, .int 0, .ref xW, .ref xR, .ref xM, .ref xS, .int (-1), .int 0, .int (-1)]))]) [0] (by decide) rfl
  have hKc := hK.sub (tys' := []) [] rfl
  have hFc := va_free (wc := [(xX, .inr (11, [.ref xT, .int 0, .ref xW, .ref xR, .ref xM, .ref xS, .int (-1), .int 0, .int (-1)]))]) hD hS hA [0] rfl
  refine va_calli (va_runV (As := [.int v_1, .int v_2, .int v_3]) (rest := []) ⟨hx, hb, hml, hown, hts⟩ (x_person l dC dI H.size v_1 v_2 v_3 xX xT xW xR xM xS) (cwV 3 hts (gV kw_3_160 kw_3_161 kw_3_162 kw_1_1 kw_3_163) rfl rfl rfl (by decide +kernel) ⟨Nat.le_of_ble_eq_true rfl, Nat.le_of_ble_eq_true rfl⟩) ⟨fun a U g mk q => by obtain ⟨q0, q1, qP, qK, qD⟩ := q; exact ⟨q0, q1, qP, va_K.moved (u := U) (U := U.calling g mk a) (Vm.Alike.refl U.vm) qK, qD⟩, va_recv hKc hPc (ci := 11) (q0 := 0) rfl rfl, fun U hU hW => ⟨rfl, by rw [hU], by rw [hU]; exact hPc, va_K.moved hW.alike hKc, hDc.weaken (fun _ _ _ _ => trivial)⟩⟩ rfl rfl hl.1 rfl (lv_room (Nat.le_of_ble_eq_true rfl)) dL_law_384 ⟨Nat.le_of_ble_eq_true rfl, Nat.le_of_ble_eq_true rfl⟩) hS (fun q _ h => hFc q h) hFc (fun r_4 u t H1 locs ht hvm hw hB hz1 hk1 hS => ?_)
  obtain ⟨hP, hD⟩ := va_join (wr := [(yM, .inr (12, [.int 0, .ref yT, .int 0, .int 0, .ref yF, vq5, .int 0, .int 0, .int 0, vq9, vq10, vq11, vq12, vq13, vq14, vq15, vq16, vq17, vq18, .ref yC, vq20, vq21, vq22, vq23, vq24, vq25, vq26, vq27, vq28, vq29, vq30, vq31, .int 0, .int 0, .int 0, .int 0, .int 0, .int 0, .int 0, .int 0, .int 0, .int 0, .int 0, .int 0, .int 0, .int 0, .long 0, .ref yL, .ref yD, .ref yB, vq50, vq51, vq52, vq53, vq54, vq55, vq56, vq57, .int 0, .int 0, .int 0, .int 0, .int 0, .int 0, vq64, vq65, .int (-1), .int (-1), vq68, vq69, vq70, vq71, vq72, vq73, vq74, vq75, vq76, vq77, vq78, vq79, vq80, vq81, vq82, vq83, .int 0, .int 0, .int (-1), .int 0, vq88, .int 0, vq90, vq91, vq92, vq93, vq94, .int 0]))]) (w1 := []) hP hD [0] [1] rfl rfl (by decide) (by decide) hk1 hFc (fun k q h => by simp at h) ⟨fun i j p q h => by simp at h, fun k q h => by simp at h⟩
  have hK := hK.sub (tys' := []) [] rfl
  generalize H1 = H at hP hS ⊢
  have hP : va_P (dC, dI) vwCl [(yM, .inr (12, [.int 0, .ref yT, .int 0, .int 0, .ref yF, vq5, .int 0, .int 0, .int 0, vq9, vq10, vq11, vq12, vq13, vq14, vq15, vq16, vq17, vq18, .ref yC, vq20, vq21, vq22, vq23, vq24, vq25, vq26, vq27, vq28, vq29, vq30, vq31, .int 0, .int 0, .int 0, .int 0, .int 0, .int 0, .int 0, .int 0, .int 0, .int 0, .int 0, .int 0, .int 0, .int 0, .long 0, .ref yL, .ref yD, .ref yB, vq50, vq51, vq52, vq53, vq54, vq55, vq56, vq57, .int 0, .int 0, .int 0, .int 0, .int 0, .int 0, vq64, vq65, .int (-1), .int (-1), vq68, vq69, vq70, vq71, vq72, vq73, vq74, vq75, vq76, vq77, vq78, vq79, vq80, vq81, vq82, vq83, .int 0, .int 0, .int (-1), .int 0, vq88, .int 0, vq90, vq91, vq92, vq93, vq94, .int 0]))] H := hP
  have hD : va_D A [(yM, .inr (12, [.int 0, .ref yT, .int 0, .int 0, .ref yF, vq5, .int 0, .int 0, .int 0, vq9, vq10, vq11, vq12, vq13, vq14, vq15, vq16, vq17, vq18, .ref yC, vq20, vq21, vq22, vq23, vq24, vq25, vq26, vq27, vq28, vq29, vq30, vq31, .int 0, .int 0, .int 0, .int 0, .int 0, .int 0, .int 0, .int 0, .int 0, .int 0, .int 0, .int 0, .int 0, .int 0, .long 0, .ref yL, .ref yD, .ref yB, vq50, vq51, vq52, vq53, vq54, vq55, vq56, vq57, .int 0, .int 0, .int 0, .int 0, .int 0, .int 0, vq64, vq65, .int (-1), .int (-1), vq68, vq69, vq70, vq71, vq72, vq73, vq74, vq75, vq76, vq77, vq78, vq79, vq80, vq81, vq82, vq83, .int 0, .int 0, .int (-1), .int 0, vq88, .int 0, vq90, vq91, vq92, vq93, vq94, .int 0]))] := hD
  have hK : va_K (dC, dI) vwCl [] s := hK
  subst hw
  refine lv_aload_n hx hb dL_law_387 rfl (lv_at hl 2 rfl) ?_
  refine lv_aload_n hx hb dL_law_388 rfl (lv_at hl 0 rfl) ?_
  refine lv_iload hx hb dL_law_389 (lv_at hl 4 rfl) ?_
  refine lv_iconst (v := 1) hx hb dL_law_391 (by decide) ?_
  refine lv_iadd hx hb dL_law_392 ?_
  refine my_ti (y := 1) (by decide) ?_
  refine va_sld hx hb hX hbl hbA hS (by rw [hL7]; unfold vp_in; decide) dL_law_393 ?_
  refine lv_topi (fun v_6 ev_6 => ?_)
  refine lv_aload_n hx hb dL_law_394 rfl (lv_at hl 0 rfl) ?_
  refine lv_iload hx hb dL_law_395 (lv_at hl 4 rfl) ?_
  refine lv_iconst (v := 2) hx hb dL_law_397 (by decide) ?_
  refine lv_iadd hx hb dL_law_398 ?_
  refine my_ti (y := 2) (by decide) ?_
  refine va_sld hx hb hX hbl hbA hS (by rw [hL7]; unfold vp_in; decide) dL_law_399 ?_
  refine lv_topi (fun v_7 ev_7 => ?_)
  refine lv_aload_n hx hb dL_law_400 rfl (lv_at hl 0 rfl) ?_
  refine lv_iload hx hb dL_law_401 (lv_at hl 4 rfl) ?_
  refine lv_iconst (v := 3) hx hb dL_law_403 (by decide) ?_
  refine lv_iadd hx hb dL_law_404 ?_
  refine my_ti (y := 3) (by decide) ?_
  refine va_sld hx hb hX hbl hbA hS (by rw [hL7]; unfold vp_in; decide) dL_law_405 ?_
  refine lv_topi (fun v_8 ev_8 => ?_)
  have hPc := hP.sub (ws' := [(yM, .inr (12, [.int 0, .ref yT, .int 0, .int 0, .ref yF, vq5, .int 0, .int 0, .int 0, vq9, vq10, vq11, vq12, vq13, vq14, vq15, vq16, vq17, vq18, .ref yC, vq20, vq21, vq22, vq23, vq24, vq25, vq26, vq27, vq28, vq29, vq30, vq31, .int 0, .int 0, .int 0, .int 0, .int 0, .int 0, .int 0, .int 0, .int 0, .int 0, .int 0, .int 0, .int 0, .int 0, .long 0, .ref yL, .ref yD, .ref yB, vq50, vq51, vq52, vq53, vq54, vq55, vq56, vq57, .int 0, .int 0, .int 0, .int 0, .int 0, .int 0, vq64, vq65, .int (-1), .int (-1), vq68, vq69, vq70, vq71, vq72, vq73, vq74, vq75, vq76, vq77, vq78, vq79, vq80, vq81, vq82, vq83, .int 0, .int 0, .int (-1), .int 0, vq88, .int 0, vq90, vq91, vq92, vq93, vq94, .int 0]))]) [0] rfl
  have hDc := hD.sub (ws' := [(yM, .inr (12, [.int 0, .ref yT, .int 0, .int 0, .ref yF, vq5, .int 0, .int 0, .int 0, vq9, vq10, vq11, vq12, vq13, vq14, vq15, vq16, vq17, vq18, .ref yC, vq20, vq21, vq22, vq23, vq24, vq25, vq26, vq27, vq28, vq29, vq30, vq31, .int 0, .int 0, .int 0, .int 0, .int 0, .int 0, .int 0, .int 0, .int 0, .int 0, .int 0, .int 0, .int 0, .int 0, .long 0, .ref yL, .ref yD, .ref yB, vq50, vq51, vq52, vq53, vq54, vq55, vq56, vq57, .int 0, .int 0, .int 0, .int 0, .int 0, .int 0, vq64, vq65, .int (-1), .int (-1), vq68, vq69, vq70, vq71, vq72, vq73, vq74, vq75, vq76, vq77, vq78, vq79, vq80, vq81, vq82, vq83, .int 0, .int 0, .int (-1), .int 0, vq88, .int 0, vq90, vq91, vq92, vq93, vq94, .int 0]))]) [0] (by decide) rfl
  have hKc := hK.sub (tys' := []) [] rfl
  have hFc := va_free (wc := [(yM, .inr (12, [.int 0, .ref yT, .int 0, .int 0, .ref yF, vq5, .int 0, .int 0, .int 0, vq9, vq10, vq11, vq12, vq13, vq14, vq15, vq16, vq17, vq18, .ref yC, vq20, vq21, vq22, vq23, vq24, vq25, vq26, vq27, vq28, vq29, vq30, vq31, .int 0, .int 0, .int 0, .int 0, .int 0, .int 0, .int 0, .int 0, .int 0, .int 0, .int 0, .int 0, .int 0, .int 0, .long 0, .ref yL, .ref yD, .ref yB, vq50, vq51, vq52, vq53, vq54, vq55, vq56, vq57, .int 0, .int 0, .int 0, .int 0, .int 0, .int 0, vq64, vq65, .int (-1), .int (-1), vq68, vq69, vq70, vq71, vq72, vq73, vq74, vq75, vq76, vq77, vq78, vq79, vq80, vq81, vq82, vq83, .int 0, .int 0, .int (-1), .int 0, vq88, .int 0, vq90, vq91, vq92, vq93, vq94, .int 0]))]) hD hS hA [0] rfl
  refine va_calli (va_runV (As := [.int v_6, .int v_7, .int v_8]) (rest := [.int (-1)]) ⟨hx, hb, hml, hown, hts⟩ (m_person l dC dI H.size v_6 v_7 v_8 yM yT yF (vq5 : Value) (vq9 : Value) (vq10 : Value) (vq11 : Value) (vq12 : Value) (vq13 : Value) (vq14 : Value) (vq15 : Value) (vq16 : Value) (vq17 : Value) (vq18 : Value) yC (vq20 : Value) (vq21 : Value) (vq22 : Value) (vq23 : Value) (vq24 : Value) (vq25 : Value) (vq26 : Value) (vq27 : Value) (vq28 : Value) (vq29 : Value) (vq30 : Value) (vq31 : Value) yL yD yB (vq50 : Value) (vq51 : Value) (vq52 : Value) (vq53 : Value) (vq54 : Value) (vq55 : Value) (vq56 : Value) (vq57 : Value) (vq64 : Value) (vq65 : Value) (vq68 : Value) (vq69 : Value) (vq70 : Value) (vq71 : Value) (vq72 : Value) (vq73 : Value) (vq74 : Value) (vq75 : Value) (vq76 : Value) (vq77 : Value) (vq78 : Value) (vq79 : Value) (vq80 : Value) (vq81 : Value) (vq82 : Value) (vq83 : Value) (vq88 : Value) (vq90 : Value) (vq91 : Value) (vq92 : Value) (vq93 : Value) (vq94 : Value)) (cwV 3 hts (gV kw_8_21 kw_8_22 kw_8_23 kw_1_15 kw_8_24) rfl rfl rfl (by decide +kernel) ⟨Nat.le_of_ble_eq_true rfl, Nat.le_of_ble_eq_true rfl⟩) ⟨fun a U g mk q => by obtain ⟨q0, q1, qP, qK, qD⟩ := q; exact ⟨q0, q1, qP, va_K.moved (u := U) (U := U.calling g mk a) (Vm.Alike.refl U.vm) qK, qD⟩, va_recv hKc hPc (ci := 12) (q0 := 0) rfl rfl, fun U hU hW => ⟨rfl, by rw [hU], by rw [hU]; exact hPc, va_K.moved hW.alike hKc, hDc.weaken (fun _ _ _ _ => trivial)⟩⟩ rfl rfl hl.1 rfl (lv_room (Nat.le_of_ble_eq_true rfl)) dL_law_406 ⟨Nat.le_of_ble_eq_true rfl, Nat.le_of_ble_eq_true rfl⟩) hS (fun q _ h => hFc q h) hFc (fun r_9 u t H1 locs ht hvm hw hB hz1 hk1 hS => ?_)
  obtain ⟨hP, hD⟩ := va_join (wr := []) (w1 := []) hP hD [0] [] rfl rfl (by decide) (by decide) hk1 hFc (fun k q h => by simp at h) ⟨fun i j p q h => by simp at h, fun k q h => by simp at h⟩
  have hK := hK.sub (tys' := []) [] rfl
  generalize H1 = H at hP hS ⊢
  have hP : va_P (dC, dI) vwCl [] H := hP
  have hD : va_D A [] := hD
  have hK : va_K (dC, dI) vwCl [] s := hK
  subst hw
  refine lv_icmp_eq (tgt := 1042) hx hb dL_law_409 (by decide) (fun c_11 => ?_) (fun c_11 => ?_)
  rotate_left
  · exact (c_11 (by decide)).elim
  refine lv_iinc (v := 7) (lv' := [(4, .int 7), (0, .ref b), (1, .ref xX), (2, .ref yM), (3, .ref yO)]) hx hb dL_law_1042 hl (k := 4) rfl (by decide) (by decide) rfl (fun ls hl => ?_)
  refine lv_goto (tgt := 23) hx hb dL_law_1045 (by decide) ?_
  refine lv_iload hx hb dL_law_23 (lv_at hl 0 rfl) ?_
  refine lv_aload_n hx hb dL_law_25 rfl (lv_at hl 1 rfl) ?_
  refine va_slen hx hb hX hbl hbA hS dL_law_26 ?_
  refine my_ti (y := 7) (by rw [hL7]; rfl) ?_
  refine lv_bipush (v := 7) hx hb dL_law_27 (by decide) ?_
  refine lv_isub hx hb dL_law_29 ?_
  refine my_ti (y := 0) (by decide) ?_
  refine lv_icmp_gt (tgt := 1048) hx hb dL_law_30 (by decide) (fun c_12 => ?_) (fun c_12 => ?_)
  rotate_left
  · exact (c_12 (by decide)).elim
  refine lv_iconst (v := 1) hx hb dL_law_1048 (by decide) ?_
  refine va_forget (fun q hq => by have h9 := hS.2.2 q hq; rw [hAe] at h9; exact h9) ?_
  refine W.widen (k := 600002) (n := 7302232) (Nat.le_of_ble_eq_true rfl) (Nat.le_of_ble_eq_true rfl) ?_
  exact lw_ret hx hb hr hlocks dL_law_1049
set_option maxHeartbeats 4000000 in
set_option maxRecDepth 100000 in
theorem law_6 {p : Program} {e : Env} {s : State} {m : MethodId} {below : List Frame} {meth : Method} {c : Code} (l : Launch) {b L : Nat} {xs : Nat → Int32} (hL7 : L = 7) (C0 : lw_At p s m meth c b L xs) (dC : Nat → ClassId) (dI : Nat → Nat → Nat) (A : Nat → Prop) (hAe : A = fun q => s.heap.size ≤ q) (yO : Nat) (xX : Nat) (xT : Nat) (xW : Nat) (xR : Nat) (xM : Nat) (xS : Nat) (xRo : Nat) (xPe : Nat) (xWh : Nat) (xTr : Nat) (xCo : Nat) (xAl : Nat) (xNl : Nat) (xDr : Nat) (xFa : Nat) (cCo : ClassId) (yM : Nat) (yT : Nat) (yF : Nat) (vq5 : Value) (vq9 : Value) (vq10 : Value) (vq11 : Value) (vq12 : Value) (vq13 : Value) (vq14 : Value) (vq15 : Value) (vq16 : Value) (vq17 : Value) (vq18 : Value) (yC : Nat) (vq20 : Value) (vq21 : Value) (vq22 : Value) (vq23 : Value) (vq24 : Value) (vq25 : Value) (vq26 : Value) (vq27 : Value) (vq28 : Value) (vq29 : Value) (vq30 : Value) (vq31 : Value) (yL : Nat) (yD : Nat) (yB : Nat) (vq50 : Value) (vq51 : Value) (vq52 : Value) (vq53 : Value) (vq54 : Value) (vq55 : Value) (vq56 : Value) (vq57 : Value) (vq64 : Value) (vq65 : Value) (vq68 : Value) (vq69 : Value) (vq70 : Value) (vq71 : Value) (vq72 : Value) (vq73 : Value) (vq74 : Value) (vq75 : Value) (vq76 : Value) (vq77 : Value) (vq78 : Value) (vq79 : Value) (vq80 : Value) (vq81 : Value) (vq82 : Value) (vq83 : Value) (vq88 : Value) (vq90 : Value) (vq91 : Value) (vq92 : Value) (vq93 : Value) (vq94 : Value) (kyC : ClassId) (H : Heap) (locs : List Loc) (hK : va_K (dC, dI) vwCl [(cCo, .int), (kyC, .int)] s) (hP : va_P (dC, dI) vwCl [(xX, .inr (11, [.ref xT, .int 0, .ref xW, .ref xR, .ref xM, .ref xS, .int (-1), .int 0, .int (-1)])), (xW, .inr (7, [.ref xRo, .ref xPe, .ref xWh, .ref xTr, .ref xCo, .int 0, .ref xAl, .ref xNl, .ref xDr, .int 0, .ref xFa, .int 0, .int 0, .int 0])), (xCo, .inl (cCo, 8, .inl (fun _ => 0))), (yM, .inr (12, [.int 0, .ref yT, .int 0, .int 0, .ref yF, vq5, .int 0, .int 0, .int 0, vq9, vq10, vq11, vq12, vq13, vq14, vq15, vq16, vq17, vq18, .ref yC, vq20, vq21, vq22, vq23, vq24, vq25, vq26, vq27, vq28, vq29, vq30, vq31, .int 0, .int 0, .int 0, .int 0, .int 0, .int 0, .int 0, .int 0, .int 0, .int 0, .int 0, .int 0, .int 0, .int 0, .long 0, .ref yL, .ref yD, .ref yB, vq50, vq51, vq52, vq53, vq54, vq55, vq56, vq57, .int 0, .int 0, .int 0, .int 0, .int 0, .int 0, vq64, vq65, .int (-1), .int (-1), vq68, vq69, vq70, vq71, vq72, vq73, vq74, vq75, vq76, vq77, vq78, vq79, vq80, vq81, vq82, vq83, .int 0, .int 0, .int (-1), .int 0, vq88, .int 0, vq90, vq91, vq92, vq93, vq94, .int 0])), (yC, .inl (kyC, 8, .inl (fun _ => 0)))] H) (hD : va_D A [(xX, .inr (11, [.ref xT, .int 0, .ref xW, .ref xR, .ref xM, .ref xS, .int (-1), .int 0, .int (-1)])), (xW, .inr (7, [.ref xRo, .ref xPe, .ref xWh, .ref xTr, .ref xCo, .int 0, .ref xAl, .ref xNl, .ref xDr, .int 0, .ref xFa, .int 0, .int 0, .int 0])), (xCo, .inl (cCo, 8, .inl (fun _ => 0))), (yM, .inr (12, [.int 0, .ref yT, .int 0, .int 0, .ref yF, vq5, .int 0, .int 0, .int 0, vq9, vq10, vq11, vq12, vq13, vq14, vq15, vq16, vq17, vq18, .ref yC, vq20, vq21, vq22, vq23, vq24, vq25, vq26, vq27, vq28, vq29, vq30, vq31, .int 0, .int 0, .int 0, .int 0, .int 0, .int 0, .int 0, .int 0, .int 0, .int 0, .int 0, .int 0, .int 0, .int 0, .long 0, .ref yL, .ref yD, .ref yB, vq50, vq51, vq52, vq53, vq54, vq55, vq56, vq57, .int 0, .int 0, .int 0, .int 0, .int 0, .int 0, vq64, vq65, .int (-1), .int (-1), vq68, vq69, vq70, vq71, vq72, vq73, vq74, vq75, vq76, vq77, vq78, vq79, vq80, vq81, vq82, vq83, .int 0, .int 0, .int (-1), .int 0, vq88, .int 0, vq90, vq91, vq92, vq93, vq94, .int 0])), (yC, .inl (kyC, 8, .inl (fun _ => 0)))]) (hS : va_S A s.heap H locs) (ls : Array Slot) (hl : lv_has ls 7 [(0, .ref b), (1, .ref xX), (2, .ref yM), (3, .ref yO), (4, .int 0)]) : W p l e room_1 s m #[Value.ref b] below meth c H locs 156 13846 (lw_Z below #[Value.ref b] s) (F0 m 414 ls []) := by
  obtain ⟨hx, hb, hr, hml, hown, hts0, hX, hbl, hlocks, hgv⟩ := id C0
  have hb : c.code = cL_law := hb
  have hown : s.vm.findClass RL = some m.cls := hown
  have hts : ∀ w ∈ (.initialized RL :: lw_good : List Cond), w.before #[Value.ref b] s = true := fun w h => (List.mem_cons.mp h).elim (fun q => by rw [q]; exact hts0 _ (lwgT kw_1_0)) (fun q => hts0 w (lwgT q))
  have hA : ∀ q : Nat, s.heap.size ≤ q → A q := fun q h => by rw [hAe]; exact h
  have hbA : ¬ A b := by rw [hAe]; exact Nat.not_le.mpr hbl
  refine lv_aload_n hx hb dL_law_414 rfl (lv_at hl 1 rfl) ?_
  refine lv_aload_n hx hb dL_law_415 rfl (lv_at hl 0 rfl) ?_
  refine lv_iload hx hb dL_law_416 (lv_at hl 4 rfl) ?_
  refine lv_iconst (v := 1) hx hb dL_law_418 (by decide) ?_
  refine lv_iadd hx hb dL_law_419 ?_
  refine my_ti (y := 1) (by decide) ?_
  refine va_sld hx hb hX hbl hbA hS (by rw [hL7]; unfold vp_in; decide) dL_law_420 ?_
  refine lv_topi (fun v_1 ev_1 => ?_)
  have hPc := hP.sub (ws' := [(xX, .inr (11, [.ref xT, .int 0, .ref xW, .ref xR, .ref xM, .ref xS, .int (-1), .int 0, .int (-1)])), (xW, .inr (7, [.ref xRo, .ref xPe, .ref xWh, .ref xTr, .ref xCo, .int 0, .ref xAl, .ref xNl, .ref xDr, .int 0, .ref xFa, .int 0, .int 0, .int 0])), (xCo, .inl (cCo, 8, .inl (fun _ => 0)))]) [0, 1, 2] rfl
  have hDc := hD.sub (ws' := [(xX, .inr (11, [.ref xT, .int 0, .ref xW, .ref xR, .ref xM, .ref xS, .int (-1), .int 0, .int (-1)])), (xW, .inr (7, [.ref xRo, .ref xPe, .ref xWh, .ref xTr, .ref xCo, .int 0, .ref xAl, .ref xNl, .ref xDr, .int 0, .ref xFa, .int 0, .int 0, .int 0])), (xCo, .inl (cCo, 8, .inl (fun _ => 0)))]) [0, 1, 2] (by decide) rfl
  have hKc := hK.sub (tys' := [(cCo, .int)]) [0] rfl
  have hFc := va_free (wc := [(xX, .inr (11, [.ref xT, .int 0, .ref xW, .ref xR, .ref xM, .ref xS, .int (-1), .int 0, .int (-1)])), (xW, .inr (7, [.ref xRo, .ref xPe, .ref xWh, .ref xTr, .ref xCo, .int 0, .ref xAl, .ref xNl, .ref xDr, .int 0, .ref xFa, .int 0, .int 0, .int 0])), (xCo, .inl (cCo, 8, .inl (fun _ => 0)))]) hD hS hA [0, 1, 2] rfl
  refine va_calli (va_runV (As := [.int v_1]) (rest := []) ⟨hx, hb, hml, hown, hts⟩ (x_stop l dC dI H.size v_1 xX xT xW xR xM xS xRo xPe xWh xTr xCo xAl xNl xDr xFa cCo) (cwV 1 hts (gV kw_3_175 kw_3_176 kw_3_177 kw_1_1 kw_3_178) rfl rfl rfl (by decide +kernel) ⟨Nat.le_of_ble_eq_true rfl, Nat.le_of_ble_eq_true rfl⟩) ⟨fun a U g mk q => by obtain ⟨q0, q1, qP, qK, qD⟩ := q; exact ⟨q0, q1, qP, va_K.moved (u := U) (U := U.calling g mk a) (Vm.Alike.refl U.vm) qK, qD⟩, va_recv hKc hPc (ci := 11) (q0 := 0) rfl rfl, fun U hU hW => ⟨rfl, by rw [hU], by rw [hU]; exact hPc, va_K.moved hW.alike hKc, hDc.weaken (fun _ _ _ _ => trivial)⟩⟩ rfl rfl hl.1 rfl (lv_room (Nat.le_of_ble_eq_true rfl)) dL_law_421 ⟨Nat.le_of_ble_eq_true rfl, Nat.le_of_ble_eq_true rfl⟩) hS (fun q _ h => hFc q h) hFc (fun r_2 u t H1 locs ht hvm hw hB hz1 hk1 hS => ?_)
  obtain ⟨hP, hD⟩ := va_join (wr := [(yM, .inr (12, [.int 0, .ref yT, .int 0, .int 0, .ref yF, vq5, .int 0, .int 0, .int 0, vq9, vq10, vq11, vq12, vq13, vq14, vq15, vq16, vq17, vq18, .ref yC, vq20, vq21, vq22, vq23, vq24, vq25, vq26, vq27, vq28, vq29, vq30, vq31, .int 0, .int 0, .int 0, .int 0, .int 0, .int 0, .int 0, .int 0, .int 0, .int 0, .int 0, .int 0, .int 0, .int 0, .long 0, .ref yL, .ref yD, .ref yB, vq50, vq51, vq52, vq53, vq54, vq55, vq56, vq57, .int 0, .int 0, .int 0, .int 0, .int 0, .int 0, vq64, vq65, .int (-1), .int (-1), vq68, vq69, vq70, vq71, vq72, vq73, vq74, vq75, vq76, vq77, vq78, vq79, vq80, vq81, vq82, vq83, .int 0, .int 0, .int (-1), .int 0, vq88, .int 0, vq90, vq91, vq92, vq93, vq94, .int 0])), (yC, .inl (kyC, 8, .inl (fun _ => 0)))]) (w1 := []) hP hD [0, 1, 2] [3, 4] rfl rfl (by decide) (by decide) hk1 hFc (fun k q h => by simp at h) ⟨fun i j p q h => by simp at h, fun k q h => by simp at h⟩
  have hK := hK.sub (tys' := [(kyC, .int)]) [1] rfl
  generalize H1 = H at hP hS ⊢
  have hP : va_P (dC, dI) vwCl [(yM, .inr (12, [.int 0, .ref yT, .int 0, .int 0, .ref yF, vq5, .int 0, .int 0, .int 0, vq9, vq10, vq11, vq12, vq13, vq14, vq15, vq16, vq17, vq18, .ref yC, vq20, vq21, vq22, vq23, vq24, vq25, vq26, vq27, vq28, vq29, vq30, vq31, .int 0, .int 0, .int 0, .int 0, .int 0, .int 0, .int 0, .int 0, .int 0, .int 0, .int 0, .int 0, .int 0, .int 0, .long 0, .ref yL, .ref yD, .ref yB, vq50, vq51, vq52, vq53, vq54, vq55, vq56, vq57, .int 0, .int 0, .int 0, .int 0, .int 0, .int 0, vq64, vq65, .int (-1), .int (-1), vq68, vq69, vq70, vq71, vq72, vq73, vq74, vq75, vq76, vq77, vq78, vq79, vq80, vq81, vq82, vq83, .int 0, .int 0, .int (-1), .int 0, vq88, .int 0, vq90, vq91, vq92, vq93, vq94, .int 0])), (yC, .inl (kyC, 8, .inl (fun _ => 0)))] H := hP
  have hD : va_D A [(yM, .inr (12, [.int 0, .ref yT, .int 0, .int 0, .ref yF, vq5, .int 0, .int 0, .int 0, vq9, vq10, vq11, vq12, vq13, vq14, vq15, vq16, vq17, vq18, .ref yC, vq20, vq21, vq22, vq23, vq24, vq25, vq26, vq27, vq28, vq29, vq30, vq31, .int 0, .int 0, .int 0, .int 0, .int 0, .int 0, .int 0, .int 0, .int 0, .int 0, .int 0, .int 0, .int 0, .int 0, .long 0, .ref yL, .ref yD, .ref yB, vq50, vq51, vq52, vq53, vq54, vq55, vq56, vq57, .int 0, .int 0, .int 0, .int 0, .int 0, .int 0, vq64, vq65, .int (-1), .int (-1), vq68, vq69, vq70, vq71, vq72, vq73, vq74, vq75, vq76, vq77, vq78, vq79, vq80, vq81, vq82, vq83, .int 0, .int 0, .int (-1), .int 0, vq88, .int 0, vq90, vq91, vq92, vq93, vq94, .int 0])), (yC, .inl (kyC, 8, .inl (fun _ => 0)))] := hD
  have hK : va_K (dC, dI) vwCl [(kyC, .int)] s := hK
  have h_3 := hw
  refine lv_aload_n hx hb dL_law_424 rfl (lv_at hl 2 rfl) ?_
  refine lv_aload_n hx hb dL_law_425 rfl (lv_at hl 0 rfl) ?_
  refine lv_iload hx hb dL_law_426 (lv_at hl 4 rfl) ?_
  refine lv_iconst (v := 1) hx hb dL_law_428 (by decide) ?_
  refine lv_iadd hx hb dL_law_429 ?_
  refine my_ti (y := 1) (by decide) ?_
  refine va_sld hx hb hX hbl hbA hS (by rw [hL7]; unfold vp_in; decide) dL_law_430 ?_
  refine lv_topi (fun v_4 ev_4 => ?_)
  have hPc := hP.sub (ws' := [(yM, .inr (12, [.int 0, .ref yT, .int 0, .int 0, .ref yF, vq5, .int 0, .int 0, .int 0, vq9, vq10, vq11, vq12, vq13, vq14, vq15, vq16, vq17, vq18, .ref yC, vq20, vq21, vq22, vq23, vq24, vq25, vq26, vq27, vq28, vq29, vq30, vq31, .int 0, .int 0, .int 0, .int 0, .int 0, .int 0, .int 0, .int 0, .int 0, .int 0, .int 0, .int 0, .int 0, .int 0, .long 0, .ref yL, .ref yD, .ref yB, vq50, vq51, vq52, vq53, vq54, vq55, vq56, vq57, .int 0, .int 0, .int 0, .int 0, .int 0, .int 0, vq64, vq65, .int (-1), .int (-1), vq68, vq69, vq70, vq71, vq72, vq73, vq74, vq75, vq76, vq77, vq78, vq79, vq80, vq81, vq82, vq83, .int 0, .int 0, .int (-1), .int 0, vq88, .int 0, vq90, vq91, vq92, vq93, vq94, .int 0])), (yC, .inl (kyC, 8, .inl (fun _ => 0)))]) [0, 1] rfl
  have hDc := hD.sub (ws' := [(yM, .inr (12, [.int 0, .ref yT, .int 0, .int 0, .ref yF, vq5, .int 0, .int 0, .int 0, vq9, vq10, vq11, vq12, vq13, vq14, vq15, vq16, vq17, vq18, .ref yC, vq20, vq21, vq22, vq23, vq24, vq25, vq26, vq27, vq28, vq29, vq30, vq31, .int 0, .int 0, .int 0, .int 0, .int 0, .int 0, .int 0, .int 0, .int 0, .int 0, .int 0, .int 0, .int 0, .int 0, .long 0, .ref yL, .ref yD, .ref yB, vq50, vq51, vq52, vq53, vq54, vq55, vq56, vq57, .int 0, .int 0, .int 0, .int 0, .int 0, .int 0, vq64, vq65, .int (-1), .int (-1), vq68, vq69, vq70, vq71, vq72, vq73, vq74, vq75, vq76, vq77, vq78, vq79, vq80, vq81, vq82, vq83, .int 0, .int 0, .int (-1), .int 0, vq88, .int 0, vq90, vq91, vq92, vq93, vq94, .int 0])), (yC, .inl (kyC, 8, .inl (fun _ => 0)))]) [0, 1] (by decide) rfl
  have hKc := hK.sub (tys' := [(kyC, .int)]) [0] rfl
  have hFc := va_free (wc := [(yM, .inr (12, [.int 0, .ref yT, .int 0, .int 0, .ref yF, vq5, .int 0, .int 0, .int 0, vq9, vq10, vq11, vq12, vq13, vq14, vq15, vq16, vq17, vq18, .ref yC, vq20, vq21, vq22, vq23, vq24, vq25, vq26, vq27, vq28, vq29, vq30, vq31, .int 0, .int 0, .int 0, .int 0, .int 0, .int 0, .int 0, .int 0, .int 0, .int 0, .int 0, .int 0, .int 0, .int 0, .long 0, .ref yL, .ref yD, .ref yB, vq50, vq51, vq52, vq53, vq54, vq55, vq56, vq57, .int 0, .int 0, .int 0, .int 0, .int 0, .int 0, vq64, vq65, .int (-1), .int (-1), vq68, vq69, vq70, vq71, vq72, vq73, vq74, vq75, vq76, vq77, vq78, vq79, vq80, vq81, vq82, vq83, .int 0, .int 0, .int (-1), .int 0, vq88, .int 0, vq90, vq91, vq92, vq93, vq94, .int 0])), (yC, .inl (kyC, 8, .inl (fun _ => 0)))]) hD hS hA [0, 1] rfl
  refine va_calli (va_runV (As := [.int v_4]) (rest := [.int r_2]) ⟨hx, hb, hml, hown, hts⟩ (m_stop l dC dI H.size v_4 yM yT yF (vq5 : Value) (vq9 : Value) (vq10 : Value) (vq11 : Value) (vq12 : Value) (vq13 : Value) (vq14 : Value) (vq15 : Value) (vq16 : Value) (vq17 : Value) (vq18 : Value) yC (vq20 : Value) (vq21 : Value) (vq22 : Value) (vq23 : Value) (vq24 : Value) (vq25 : Value) (vq26 : Value) (vq27 : Value) (vq28 : Value) (vq29 : Value) (vq30 : Value) (vq31 : Value) yL yD yB (vq50 : Value) (vq51 : Value) (vq52 : Value) (vq53 : Value) (vq54 : Value) (vq55 : Value) (vq56 : Value) (vq57 : Value) (vq64 : Value) (vq65 : Value) (vq68 : Value) (vq69 : Value) (vq70 : Value) (vq71 : Value) (vq72 : Value) (vq73 : Value) (vq74 : Value) (vq75 : Value) (vq76 : Value) (vq77 : Value) (vq78 : Value) (vq79 : Value) (vq80 : Value) (vq81 : Value) (vq82 : Value) (vq83 : Value) (vq88 : Value) (vq90 : Value) (vq91 : Value) (vq92 : Value) (vq93 : Value) (vq94 : Value) kyC) (cwV 1 hts (gV kw_8_29 kw_8_30 kw_8_31 kw_1_15 kw_8_32) rfl rfl rfl (by decide +kernel) ⟨Nat.le_of_ble_eq_true rfl, Nat.le_of_ble_eq_true rfl⟩) ⟨fun a U g mk q => by obtain ⟨q0, q1, qP, qK, qD⟩ := q; exact ⟨q0, q1, qP, va_K.moved (u := U) (U := U.calling g mk a) (Vm.Alike.refl U.vm) qK, qD⟩, va_recv hKc hPc (ci := 12) (q0 := 0) rfl rfl, fun U hU hW => ⟨rfl, by rw [hU], by rw [hU]; exact hPc, va_K.moved hW.alike hKc, hDc.weaken (fun _ _ _ _ => trivial)⟩⟩ rfl rfl hl.1 rfl (lv_room (Nat.le_of_ble_eq_true rfl)) dL_law_431 ⟨Nat.le_of_ble_eq_true rfl, Nat.le_of_ble_eq_true rfl⟩) hS (fun q _ h => hFc q h) hFc (fun r_5 u t H1 locs ht hvm hw hB hz1 hk1 hS => ?_)
  obtain ⟨hP, hD⟩ := va_join (wr := []) (w1 := []) hP hD [0, 1] [] rfl rfl (by decide) (by decide) hk1 hFc (fun k q h => by simp at h) ⟨fun i j p q h => by simp at h, fun k q h => by simp at h⟩
  have hK := hK.sub (tys' := []) [] rfl
  generalize H1 = H at hP hS ⊢
  have hP : va_P (dC, dI) vwCl [] H := hP
  have hD : va_D A [] := hD
  have hK : va_K (dC, dI) vwCl [] s := hK
  have h_6 := hw
  refine lv_icmp_eq (tgt := 1042) hx hb dL_law_434 (by decide) (fun c_7 => ?_) (fun c_7 => ?_)
  rotate_left
  · exact (c_7 (by rw [h_3, h_6]; simp only [ev_1, ev_4])).elim
  refine lv_iinc (v := 7) (lv' := [(4, .int 7), (0, .ref b), (1, .ref xX), (2, .ref yM), (3, .ref yO)]) hx hb dL_law_1042 hl (k := 4) rfl (by decide) (by decide) rfl (fun ls hl => ?_)
  refine lv_goto (tgt := 23) hx hb dL_law_1045 (by decide) ?_
  refine lv_iload hx hb dL_law_23 (lv_at hl 0 rfl) ?_
  refine lv_aload_n hx hb dL_law_25 rfl (lv_at hl 1 rfl) ?_
  refine va_slen hx hb hX hbl hbA hS dL_law_26 ?_
  refine my_ti (y := 7) (by rw [hL7]; rfl) ?_
  refine lv_bipush (v := 7) hx hb dL_law_27 (by decide) ?_
  refine lv_isub hx hb dL_law_29 ?_
  refine my_ti (y := 0) (by decide) ?_
  refine lv_icmp_gt (tgt := 1048) hx hb dL_law_30 (by decide) (fun c_8 => ?_) (fun c_8 => ?_)
  rotate_left
  · exact (c_8 (by decide)).elim
  refine lv_iconst (v := 1) hx hb dL_law_1048 (by decide) ?_
  refine va_forget (fun q hq => by have h9 := hS.2.2 q hq; rw [hAe] at h9; exact h9) ?_
  refine W.widen (k := 600002) (n := 7302232) (Nat.le_of_ble_eq_true rfl) (Nat.le_of_ble_eq_true rfl) ?_
  exact lw_ret hx hb hr hlocks dL_law_1049
set_option maxHeartbeats 4000000 in
set_option maxRecDepth 100000 in
theorem law_7 {p : Program} {e : Env} {s : State} {m : MethodId} {below : List Frame} {meth : Method} {c : Code} (l : Launch) {b L : Nat} {xs : Nat → Int32} (hL7 : L = 7) (C0 : lw_At p s m meth c b L xs) (dC : Nat → ClassId) (dI : Nat → Nat → Nat) (A : Nat → Prop) (hAe : A = fun q => s.heap.size ≤ q) (yO : Nat) (xX : Nat) (xT : Nat) (xW : Nat) (xR : Nat) (xM : Nat) (xS : Nat) (xRo : Nat) (xPe : Nat) (xWh : Nat) (xTr : Nat) (xCo : Nat) (xAl : Nat) (xNl : Nat) (xDr : Nat) (xFa : Nat) (yM : Nat) (yT : Nat) (yF : Nat) (vq5 : Value) (vq9 : Value) (vq10 : Value) (vq11 : Value) (vq12 : Value) (vq13 : Value) (vq14 : Value) (vq15 : Value) (vq16 : Value) (vq17 : Value) (vq18 : Value) (yC : Nat) (vq20 : Value) (vq21 : Value) (vq22 : Value) (vq23 : Value) (vq24 : Value) (vq25 : Value) (vq26 : Value) (vq27 : Value) (vq28 : Value) (vq29 : Value) (vq30 : Value) (vq31 : Value) (yL : Nat) (yD : Nat) (yB : Nat) (vq50 : Value) (vq51 : Value) (vq52 : Value) (vq53 : Value) (vq54 : Value) (vq55 : Value) (vq56 : Value) (vq57 : Value) (vq64 : Value) (vq65 : Value) (vq68 : Value) (vq69 : Value) (vq70 : Value) (vq71 : Value) (vq72 : Value) (vq73 : Value) (vq74 : Value) (vq75 : Value) (vq76 : Value) (vq77 : Value) (vq78 : Value) (vq79 : Value) (vq80 : Value) (vq81 : Value) (vq82 : Value) (vq83 : Value) (vq88 : Value) (vq90 : Value) (vq91 : Value) (vq92 : Value) (vq93 : Value) (vq94 : Value) (H : Heap) (locs : List Loc) (hK : va_K (dC, dI) vwCl [] s) (hP : va_P (dC, dI) vwCl [(xX, .inr (11, [.ref xT, .int 0, .ref xW, .ref xR, .ref xM, .ref xS, .int (-1), .int 0, .int (-1)])), (xW, .inr (7, [.ref xRo, .ref xPe, .ref xWh, .ref xTr, .ref xCo, .int 0, .ref xAl, .ref xNl, .ref xDr, .int 0, .ref xFa, .int 0, .int 0, .int 0])), (yM, .inr (12, [.int 0, .ref yT, .int 0, .int 0, .ref yF, vq5, .int 0, .int 0, .int 0, vq9, vq10, vq11, vq12, vq13, vq14, vq15, vq16, vq17, vq18, .ref yC, vq20, vq21, vq22, vq23, vq24, vq25, vq26, vq27, vq28, vq29, vq30, vq31, .int 0, .int 0, .int 0, .int 0, .int 0, .int 0, .int 0, .int 0, .int 0, .int 0, .int 0, .int 0, .int 0, .int 0, .long 0, .ref yL, .ref yD, .ref yB, vq50, vq51, vq52, vq53, vq54, vq55, vq56, vq57, .int 0, .int 0, .int 0, .int 0, .int 0, .int 0, vq64, vq65, .int (-1), .int (-1), vq68, vq69, vq70, vq71, vq72, vq73, vq74, vq75, vq76, vq77, vq78, vq79, vq80, vq81, vq82, vq83, .int 0, .int 0, .int (-1), .int 0, vq88, .int 0, vq90, vq91, vq92, vq93, vq94, .int 0]))] H) (hD : va_D A [(xX, .inr (11, [.ref xT, .int 0, .ref xW, .ref xR, .ref xM, .ref xS, .int (-1), .int 0, .int (-1)])), (xW, .inr (7, [.ref xRo, .ref xPe, .ref xWh, .ref xTr, .ref xCo, .int 0, .ref xAl, .ref xNl, .ref xDr, .int 0, .ref xFa, .int 0, .int 0, .int 0])), (yM, .inr (12, [.int 0, .ref yT, .int 0, .int 0, .ref yF, vq5, .int 0, .int 0, .int 0, vq9, vq10, vq11, vq12, vq13, vq14, vq15, vq16, vq17, vq18, .ref yC, vq20, vq21, vq22, vq23, vq24, vq25, vq26, vq27, vq28, vq29, vq30, vq31, .int 0, .int 0, .int 0, .int 0, .int 0, .int 0, .int 0, .int 0, .int 0, .int 0, .int 0, .int 0, .int 0, .int 0, .long 0, .ref yL, .ref yD, .ref yB, vq50, vq51, vq52, vq53, vq54, vq55, vq56, vq57, .int 0, .int 0, .int 0, .int 0, .int 0, .int 0, vq64, vq65, .int (-1), .int (-1), vq68, vq69, vq70, vq71, vq72, vq73, vq74, vq75, vq76, vq77, vq78, vq79, vq80, vq81, vq82, vq83, .int 0, .int 0, .int (-1), .int 0, vq88, .int 0, vq90, vq91, vq92, vq93, vq94, .int 0]))]) (hS : va_S A s.heap H locs) (ls : Array Slot) (hl : lv_has ls 7 [(0, .ref b), (1, .ref xX), (2, .ref yM), (3, .ref yO), (4, .int 0)]) : W p l e room_1 s m #[Value.ref b] below meth c H locs 156 13846 (lw_Z below #[Value.ref b] s) (F0 m 439 ls []) := by
  obtain ⟨hx, hb, hr, hml, hown, hts0, hX, hbl, hlocks, hgv⟩ := id C0
  have hb : c.code = cL_law := hb
  have hown : s.vm.findClass RL = some m.cls := hown
  have hts : ∀ w ∈ (.initialized RL :: lw_good : List Cond), w.before #[Value.ref b] s = true := fun w h => (List.mem_cons.mp h).elim (fun q => by rw [q]; exact hts0 _ (lwgT kw_1_0)) (fun q => hts0 w (lwgT q))
  have hA : ∀ q : Nat, s.heap.size ≤ q → A q := fun q h => by rw [hAe]; exact h
  have hbA : ¬ A b := by rw [hAe]; exact Nat.not_le.mpr hbl
  refine lv_aload_n hx hb dL_law_439 rfl (lv_at hl 1 rfl) ?_
  refine lv_aload_n hx hb dL_law_440 rfl (lv_at hl 0 rfl) ?_
  refine lv_iload hx hb dL_law_441 (lv_at hl 4 rfl) ?_
  refine lv_iconst (v := 1) hx hb dL_law_443 (by decide) ?_
  refine lv_iadd hx hb dL_law_444 ?_
  refine my_ti (y := 1) (by decide) ?_
  refine va_sld hx hb hX hbl hbA hS (by rw [hL7]; unfold vp_in; decide) dL_law_445 ?_
  refine lv_topi (fun v_1 ev_1 => ?_)
  refine lv_aload_n hx hb dL_law_446 rfl (lv_at hl 0 rfl) ?_
  refine lv_iload hx hb dL_law_447 (lv_at hl 4 rfl) ?_
  refine lv_iconst (v := 2) hx hb dL_law_449 (by decide) ?_
  refine lv_iadd hx hb dL_law_450 ?_
  refine my_ti (y := 2) (by decide) ?_
  refine va_sld hx hb hX hbl hbA hS (by rw [hL7]; unfold vp_in; decide) dL_law_451 ?_
  refine lv_topi (fun v_2 ev_2 => ?_)
  refine lv_aload_n hx hb dL_law_452 rfl (lv_at hl 0 rfl) ?_
  refine lv_iload hx hb dL_law_453 (lv_at hl 4 rfl) ?_
  refine lv_iconst (v := 3) hx hb dL_law_455 (by decide) ?_
  refine lv_iadd hx hb dL_law_456 ?_
  refine my_ti (y := 3) (by decide) ?_
  refine va_sld hx hb hX hbl hbA hS (by rw [hL7]; unfold vp_in; decide) dL_law_457 ?_
  refine lv_topi (fun v_3 ev_3 => ?_)
  refine lv_aload_n hx hb dL_law_458 rfl (lv_at hl 0 rfl) ?_
  refine lv_iload hx hb dL_law_459 (lv_at hl 4 rfl) ?_
  refine lv_iconst (v := 4) hx hb dL_law_461 (by decide) ?_
  refine lv_iadd hx hb dL_law_462 ?_
  refine my_ti (y := 4) (by decide) ?_
  refine va_sld hx hb hX hbl hbA hS (by rw [hL7]; unfold vp_in; decide) dL_law_463 ?_
  refine lv_topi (fun v_4 ev_4 => ?_)
  have hPc := hP.sub (ws' := [(xX, .inr (11, [.ref xT, .int 0, .ref xW, .ref xR, .ref xM, .ref xS, .int (-1), .int 0, .int (-1)])), (xW, .inr (7, [.ref xRo, .ref xPe, .ref xWh, .ref xTr, .ref xCo, .int 0, .ref xAl, .ref xNl, .ref xDr, .int 0, .ref xFa, .int 0, .int 0, .int 0]))]) [0, 1] rfl
  have hDc := hD.sub (ws' := [(xX, .inr (11, [.ref xT, .int 0, .ref xW, .ref xR, .ref xM, .ref xS, .int (-1), .int 0, .int (-1)])), (xW, .inr (7, [.ref xRo, .ref xPe, .ref xWh, .ref xTr, .ref xCo, .int 0, .ref xAl, .ref xNl, .ref xDr, .int 0, .ref xFa, .int 0, .int 0, .int 0]))]) [0, 1] (by decide) rfl
  have hKc := hK.sub (tys' := []) [] rfl
  have hFc := va_free (wc := [(xX, .inr (11, [.ref xT, .int 0, .ref xW, .ref xR, .ref xM, .ref xS, .int (-1), .int 0, .int (-1)])), (xW, .inr (7, [.ref xRo, .ref xPe, .ref xWh, .ref xTr, .ref xCo, .int 0, .ref xAl, .ref xNl, .ref xDr, .int 0, .ref xFa, .int 0, .int 0, .int 0]))]) hD hS hA [0, 1] rfl
  refine va_calli (va_runV (As := [.int v_1, .int v_2, .int v_3, .int v_4]) (rest := []) ⟨hx, hb, hml, hown, hts⟩ (x_wheel l dC dI H.size v_1 v_2 v_3 v_4 xX xT xW xR xM xS xRo xPe xWh xTr xCo xAl xNl xDr xFa) (cwV 4 hts (gV kw_3_179 kw_3_180 kw_3_181 kw_1_1 kw_3_182) rfl rfl rfl (by decide +kernel) ⟨Nat.le_of_ble_eq_true rfl, Nat.le_of_ble_eq_true rfl⟩) ⟨fun a U g mk q => by obtain ⟨q0, q1, qP, qK, qD⟩ := q; exact ⟨q0, q1, qP, va_K.moved (u := U) (U := U.calling g mk a) (Vm.Alike.refl U.vm) qK, qD⟩, va_recv hKc hPc (ci := 11) (q0 := 0) rfl rfl, fun U hU hW => ⟨rfl, by rw [hU], by rw [hU]; exact hPc, va_K.moved hW.alike hKc, hDc.weaken (fun _ _ _ _ => trivial)⟩⟩ rfl rfl hl.1 rfl (lv_room (Nat.le_of_ble_eq_true rfl)) dL_law_464 ⟨Nat.le_of_ble_eq_true rfl, Nat.le_of_ble_eq_true rfl⟩) hS (fun q _ h => hFc q h) hFc (fun r_5 u t H1 locs ht hvm hw hB hz1 hk1 hS => ?_)
  obtain ⟨hP, hD⟩ := va_join (wr := [(yM, .inr (12, [.int 0, .ref yT, .int 0, .int 0, .ref yF, vq5, .int 0, .int 0, .int 0, vq9, vq10, vq11, vq12, vq13, vq14, vq15, vq16, vq17, vq18, .ref yC, vq20, vq21, vq22, vq23, vq24, vq25, vq26, vq27, vq28, vq29, vq30, vq31, .int 0, .int 0, .int 0, .int 0, .int 0, .int 0, .int 0, .int 0, .int 0, .int 0, .int 0, .int 0, .int 0, .int 0, .long 0, .ref yL, .ref yD, .ref yB, vq50, vq51, vq52, vq53, vq54, vq55, vq56, vq57, .int 0, .int 0, .int 0, .int 0, .int 0, .int 0, vq64, vq65, .int (-1), .int (-1), vq68, vq69, vq70, vq71, vq72, vq73, vq74, vq75, vq76, vq77, vq78, vq79, vq80, vq81, vq82, vq83, .int 0, .int 0, .int (-1), .int 0, vq88, .int 0, vq90, vq91, vq92, vq93, vq94, .int 0]))]) (w1 := []) hP hD [0, 1] [2] rfl rfl (by decide) (by decide) hk1 hFc (fun k q h => by simp at h) ⟨fun i j p q h => by simp at h, fun k q h => by simp at h⟩
  have hK := hK.sub (tys' := []) [] rfl
  generalize H1 = H at hP hS ⊢
  have hP : va_P (dC, dI) vwCl [(yM, .inr (12, [.int 0, .ref yT, .int 0, .int 0, .ref yF, vq5, .int 0, .int 0, .int 0, vq9, vq10, vq11, vq12, vq13, vq14, vq15, vq16, vq17, vq18, .ref yC, vq20, vq21, vq22, vq23, vq24, vq25, vq26, vq27, vq28, vq29, vq30, vq31, .int 0, .int 0, .int 0, .int 0, .int 0, .int 0, .int 0, .int 0, .int 0, .int 0, .int 0, .int 0, .int 0, .int 0, .long 0, .ref yL, .ref yD, .ref yB, vq50, vq51, vq52, vq53, vq54, vq55, vq56, vq57, .int 0, .int 0, .int 0, .int 0, .int 0, .int 0, vq64, vq65, .int (-1), .int (-1), vq68, vq69, vq70, vq71, vq72, vq73, vq74, vq75, vq76, vq77, vq78, vq79, vq80, vq81, vq82, vq83, .int 0, .int 0, .int (-1), .int 0, vq88, .int 0, vq90, vq91, vq92, vq93, vq94, .int 0]))] H := hP
  have hD : va_D A [(yM, .inr (12, [.int 0, .ref yT, .int 0, .int 0, .ref yF, vq5, .int 0, .int 0, .int 0, vq9, vq10, vq11, vq12, vq13, vq14, vq15, vq16, vq17, vq18, .ref yC, vq20, vq21, vq22, vq23, vq24, vq25, vq26, vq27, vq28, vq29, vq30, vq31, .int 0, .int 0, .int 0, .int 0, .int 0, .int 0, .int 0, .int 0, .int 0, .int 0, .int 0, .int 0, .int 0, .int 0, .long 0, .ref yL, .ref yD, .ref yB, vq50, vq51, vq52, vq53, vq54, vq55, vq56, vq57, .int 0, .int 0, .int 0, .int 0, .int 0, .int 0, vq64, vq65, .int (-1), .int (-1), vq68, vq69, vq70, vq71, vq72, vq73, vq74, vq75, vq76, vq77, vq78, vq79, vq80, vq81, vq82, vq83, .int 0, .int 0, .int (-1), .int 0, vq88, .int 0, vq90, vq91, vq92, vq93, vq94, .int 0]))] := hD
  have hK : va_K (dC, dI) vwCl [] s := hK
  subst hw
  refine lv_aload_n hx hb dL_law_467 rfl (lv_at hl 2 rfl) ?_
  refine lv_aload_n hx hb dL_law_468 rfl (lv_at hl 0 rfl) ?_
  refine lv_iload hx hb dL_law_469 (lv_at hl 4 rfl) ?_
  refine lv_iconst (v := 1) hx hb dL_law_471 (by decide) ?_
  refine lv_iadd hx hb dL_law_472 ?_
  refine my_ti (y := 1) (by decide) ?_
  refine va_sld hx hb hX hbl hbA hS (by rw [hL7]; unfold vp_in; decide) dL_law_473 ?_
  refine lv_topi (fun v_7 ev_7 => ?_)
  refine lv_aload_n hx hb dL_law_474 rfl (lv_at hl 0 rfl) ?_
  refine lv_iload hx hb dL_law_475 (lv_at hl 4 rfl) ?_
  refine lv_iconst (v := 2) hx hb dL_law_477 (by decide) ?_
  refine lv_iadd hx hb dL_law_478 ?_
  refine my_ti (y := 2) (by decide) ?_
  refine va_sld hx hb hX hbl hbA hS (by rw [hL7]; unfold vp_in; decide) dL_law_479 ?_
  refine lv_topi (fun v_8 ev_8 => ?_)
  refine lv_aload_n hx hb dL_law_480 rfl (lv_at hl 0 rfl) ?_
  refine lv_iload hx hb dL_law_481 (lv_at hl 4 rfl) ?_
  refine lv_iconst (v := 3) hx hb dL_law_483 (by decide) ?_
  refine lv_iadd hx hb dL_law_484 ?_
  refine my_ti (y := 3) (by decide) ?_
  refine va_sld hx hb hX hbl hbA hS (by rw [hL7]; unfold vp_in; decide) dL_law_485 ?_
  refine lv_topi (fun v_9 ev_9 => ?_)
  refine lv_aload_n hx hb dL_law_486 rfl (lv_at hl 0 rfl) ?_
  refine lv_iload hx hb dL_law_487 (lv_at hl 4 rfl) ?_
  refine lv_iconst (v := 4) hx hb dL_law_489 (by decide) ?_
  refine lv_iadd hx hb dL_law_490 ?_
  refine my_ti (y := 4) (by decide) ?_
  refine va_sld hx hb hX hbl hbA hS (by rw [hL7]; unfold vp_in; decide) dL_law_491 ?_
  refine lv_topi (fun v_10 ev_10 => ?_)
  have hPc := hP.sub (ws' := [(yM, .inr (12, [.int 0, .ref yT, .int 0, .int 0, .ref yF, vq5, .int 0, .int 0, .int 0, vq9, vq10, vq11, vq12, vq13, vq14, vq15, vq16, vq17, vq18, .ref yC, vq20, vq21, vq22, vq23, vq24, vq25, vq26, vq27, vq28, vq29, vq30, vq31, .int 0, .int 0, .int 0, .int 0, .int 0, .int 0, .int 0, .int 0, .int 0, .int 0, .int 0, .int 0, .int 0, .int 0, .long 0, .ref yL, .ref yD, .ref yB, vq50, vq51, vq52, vq53, vq54, vq55, vq56, vq57, .int 0, .int 0, .int 0, .int 0, .int 0, .int 0, vq64, vq65, .int (-1), .int (-1), vq68, vq69, vq70, vq71, vq72, vq73, vq74, vq75, vq76, vq77, vq78, vq79, vq80, vq81, vq82, vq83, .int 0, .int 0, .int (-1), .int 0, vq88, .int 0, vq90, vq91, vq92, vq93, vq94, .int 0]))]) [0] rfl
  have hDc := hD.sub (ws' := [(yM, .inr (12, [.int 0, .ref yT, .int 0, .int 0, .ref yF, vq5, .int 0, .int 0, .int 0, vq9, vq10, vq11, vq12, vq13, vq14, vq15, vq16, vq17, vq18, .ref yC, vq20, vq21, vq22, vq23, vq24, vq25, vq26, vq27, vq28, vq29, vq30, vq31, .int 0, .int 0, .int 0, .int 0, .int 0, .int 0, .int 0, .int 0, .int 0, .int 0, .int 0, .int 0, .int 0, .int 0, .long 0, .ref yL, .ref yD, .ref yB, vq50, vq51, vq52, vq53, vq54, vq55, vq56, vq57, .int 0, .int 0, .int 0, .int 0, .int 0, .int 0, vq64, vq65, .int (-1), .int (-1), vq68, vq69, vq70, vq71, vq72, vq73, vq74, vq75, vq76, vq77, vq78, vq79, vq80, vq81, vq82, vq83, .int 0, .int 0, .int (-1), .int 0, vq88, .int 0, vq90, vq91, vq92, vq93, vq94, .int 0]))]) [0] (by decide) rfl
  have hKc := hK.sub (tys' := []) [] rfl
  have hFc := va_free (wc := [(yM, .inr (12, [.int 0, .ref yT, .int 0, .int 0, .ref yF, vq5, .int 0, .int 0, .int 0, vq9, vq10, vq11, vq12, vq13, vq14, vq15, vq16, vq17, vq18, .ref yC, vq20, vq21, vq22, vq23, vq24, vq25, vq26, vq27, vq28, vq29, vq30, vq31, .int 0, .int 0, .int 0, .int 0, .int 0, .int 0, .int 0, .int 0, .int 0, .int 0, .int 0, .int 0, .int 0, .int 0, .long 0, .ref yL, .ref yD, .ref yB, vq50, vq51, vq52, vq53, vq54, vq55, vq56, vq57, .int 0, .int 0, .int 0, .int 0, .int 0, .int 0, vq64, vq65, .int (-1), .int (-1), vq68, vq69, vq70, vq71, vq72, vq73, vq74, vq75, vq76, vq77, vq78, vq79, vq80, vq81, vq82, vq83, .int 0, .int 0, .int (-1), .int 0, vq88, .int 0, vq90, vq91, vq92, vq93, vq94, .int 0]))]) hD hS hA [0] rfl
  refine va_calli (va_runV (As := [.int v_7, .int v_8, .int v_9, .int v_10]) (rest := [.int (-1)]) ⟨hx, hb, hml, hown, hts⟩ (m_wheel l dC dI H.size v_7 v_8 v_9 v_10 yM yT yF (vq5 : Value) (vq9 : Value) (vq10 : Value) (vq11 : Value) (vq12 : Value) (vq13 : Value) (vq14 : Value) (vq15 : Value) (vq16 : Value) (vq17 : Value) (vq18 : Value) yC (vq20 : Value) (vq21 : Value) (vq22 : Value) (vq23 : Value) (vq24 : Value) (vq25 : Value) (vq26 : Value) (vq27 : Value) (vq28 : Value) (vq29 : Value) (vq30 : Value) (vq31 : Value) yL yD yB (vq50 : Value) (vq51 : Value) (vq52 : Value) (vq53 : Value) (vq54 : Value) (vq55 : Value) (vq56 : Value) (vq57 : Value) (vq64 : Value) (vq65 : Value) (vq68 : Value) (vq69 : Value) (vq70 : Value) (vq71 : Value) (vq72 : Value) (vq73 : Value) (vq74 : Value) (vq75 : Value) (vq76 : Value) (vq77 : Value) (vq78 : Value) (vq79 : Value) (vq80 : Value) (vq81 : Value) (vq82 : Value) (vq83 : Value) (vq88 : Value) (vq90 : Value) (vq91 : Value) (vq92 : Value) (vq93 : Value) (vq94 : Value)) (cwV 4 hts (gV kw_8_33 kw_8_34 kw_8_35 kw_1_15 kw_8_36) rfl rfl rfl (by decide +kernel) ⟨Nat.le_of_ble_eq_true rfl, Nat.le_of_ble_eq_true rfl⟩) ⟨fun a U g mk q => by obtain ⟨q0, q1, qP, qK, qD⟩ := q; exact ⟨q0, q1, qP, va_K.moved (u := U) (U := U.calling g mk a) (Vm.Alike.refl U.vm) qK, qD⟩, va_recv hKc hPc (ci := 12) (q0 := 0) rfl rfl, fun U hU hW => ⟨rfl, by rw [hU], by rw [hU]; exact hPc, va_K.moved hW.alike hKc, hDc.weaken (fun _ _ _ _ => trivial)⟩⟩ rfl rfl hl.1 rfl (lv_room (Nat.le_of_ble_eq_true rfl)) dL_law_492 ⟨Nat.le_of_ble_eq_true rfl, Nat.le_of_ble_eq_true rfl⟩) hS (fun q _ h => hFc q h) hFc (fun r_11 u t H1 locs ht hvm hw hB hz1 hk1 hS => ?_)
  obtain ⟨hP, hD⟩ := va_join (wr := []) (w1 := []) hP hD [0] [] rfl rfl (by decide) (by decide) hk1 hFc (fun k q h => by simp at h) ⟨fun i j p q h => by simp at h, fun k q h => by simp at h⟩
  have hK := hK.sub (tys' := []) [] rfl
  generalize H1 = H at hP hS ⊢
  have hP : va_P (dC, dI) vwCl [] H := hP
  have hD : va_D A [] := hD
  have hK : va_K (dC, dI) vwCl [] s := hK
  subst hw
  refine lv_icmp_eq (tgt := 1042) hx hb dL_law_495 (by decide) (fun c_13 => ?_) (fun c_13 => ?_)
  rotate_left
  · exact (c_13 (by decide)).elim
  refine lv_iinc (v := 7) (lv' := [(4, .int 7), (0, .ref b), (1, .ref xX), (2, .ref yM), (3, .ref yO)]) hx hb dL_law_1042 hl (k := 4) rfl (by decide) (by decide) rfl (fun ls hl => ?_)
  refine lv_goto (tgt := 23) hx hb dL_law_1045 (by decide) ?_
  refine lv_iload hx hb dL_law_23 (lv_at hl 0 rfl) ?_
  refine lv_aload_n hx hb dL_law_25 rfl (lv_at hl 1 rfl) ?_
  refine va_slen hx hb hX hbl hbA hS dL_law_26 ?_
  refine my_ti (y := 7) (by rw [hL7]; rfl) ?_
  refine lv_bipush (v := 7) hx hb dL_law_27 (by decide) ?_
  refine lv_isub hx hb dL_law_29 ?_
  refine my_ti (y := 0) (by decide) ?_
  refine lv_icmp_gt (tgt := 1048) hx hb dL_law_30 (by decide) (fun c_14 => ?_) (fun c_14 => ?_)
  rotate_left
  · exact (c_14 (by decide)).elim
  refine lv_iconst (v := 1) hx hb dL_law_1048 (by decide) ?_
  refine va_forget (fun q hq => by have h9 := hS.2.2 q hq; rw [hAe] at h9; exact h9) ?_
  refine W.widen (k := 600002) (n := 7302232) (Nat.le_of_ble_eq_true rfl) (Nat.le_of_ble_eq_true rfl) ?_
  exact lw_ret hx hb hr hlocks dL_law_1049
set_option maxHeartbeats 4000000 in
set_option maxRecDepth 100000 in
theorem law_8 {p : Program} {e : Env} {s : State} {m : MethodId} {below : List Frame} {meth : Method} {c : Code} (l : Launch) {b L : Nat} {xs : Nat → Int32} (hL7 : L = 7) (C0 : lw_At p s m meth c b L xs) (dC : Nat → ClassId) (dI : Nat → Nat → Nat) (A : Nat → Prop) (hAe : A = fun q => s.heap.size ≤ q) (yO : Nat) (xX : Nat) (xT : Nat) (xW : Nat) (xR : Nat) (xM : Nat) (xS : Nat) (xRo : Nat) (xPe : Nat) (xWh : Nat) (xTr : Nat) (xCo : Nat) (xAl : Nat) (xNl : Nat) (xDr : Nat) (xFa : Nat) (vh1 : Value) (vh2 : Value) (vh3 : Value) (vh4 : Value) (vh5 : Value) (vh6 : Value) (vh7 : Value) (vh8 : Value) (yM : Nat) (yT : Nat) (yF : Nat) (vq5 : Value) (vq9 : Value) (vq10 : Value) (vq11 : Value) (vq12 : Value) (vq13 : Value) (vq14 : Value) (vq15 : Value) (vq16 : Value) (vq17 : Value) (vq18 : Value) (yC : Nat) (vq20 : Value) (vq21 : Value) (vq22 : Value) (vq23 : Value) (vq24 : Value) (vq25 : Value) (vq26 : Value) (vq27 : Value) (vq28 : Value) (vq29 : Value) (vq30 : Value) (vq31 : Value) (yL : Nat) (yD : Nat) (yB : Nat) (vq50 : Value) (vq51 : Value) (vq52 : Value) (vq53 : Value) (vq54 : Value) (vq55 : Value) (vq56 : Value) (vq57 : Value) (vq64 : Value) (vq65 : Value) (vq68 : Value) (vq69 : Value) (vq70 : Value) (vq71 : Value) (vq72 : Value) (vq73 : Value) (vq74 : Value) (vq75 : Value) (vq76 : Value) (vq77 : Value) (vq78 : Value) (vq79 : Value) (vq80 : Value) (vq81 : Value) (vq82 : Value) (vq83 : Value) (vq88 : Value) (vq90 : Value) (vq91 : Value) (vq92 : Value) (vq93 : Value) (vq94 : Value) (H : Heap) (locs : List Loc) (hK : va_K (dC, dI) vwCl [] s) (hP : va_P (dC, dI) vwCl [(xX, .inr (11, [.ref xT, .int 0, .ref xW, .ref xR, .ref xM, .ref xS, .int (-1), .int 0, .int (-1)])), (xW, .inr (7, [.ref xRo, .ref xPe, .ref xWh, .ref xTr, .ref xCo, .int 0, .ref xAl, .ref xNl, .ref xDr, .int 0, .ref xFa, .int 0, .int 0, .int 0])), (xWh, .inr (10, [.int 0, vh1, vh2, vh3, vh4, vh5, vh6, vh7, vh8])), (yM, .inr (12, [.int 0, .ref yT, .int 0, .int 0, .ref yF, vq5, .int 0, .int 0, .int 0, vq9, vq10, vq11, vq12, vq13, vq14, vq15, vq16, vq17, vq18, .ref yC, vq20, vq21, vq22, vq23, vq24, vq25, vq26, vq27, vq28, vq29, vq30, vq31, .int 0, .int 0, .int 0, .int 0, .int 0, .int 0, .int 0, .int 0, .int 0, .int 0, .int 0, .int 0, .int 0, .int 0, .long 0, .ref yL, .ref yD, .ref yB, vq50, vq51, vq52, vq53, vq54, vq55, vq56, vq57, .int 0, .int 0, .int 0, .int 0, .int 0, .int 0, vq64, vq65, .int (-1), .int (-1), vq68, vq69, vq70, vq71, vq72, vq73, vq74, vq75, vq76, vq77, vq78, vq79, vq80, vq81, vq82, vq83, .int 0, .int 0, .int (-1), .int 0, vq88, .int 0, vq90, vq91, vq92, vq93, vq94, .int 0]))] H) (hD : va_D A [(xX, .inr (11, [.ref xT, .int 0, .ref xW, .ref xR, .ref xM, .ref xS, .int (-1), .int 0, .int (-1)])), (xW, .inr (7, [.ref xRo, .ref xPe, .ref xWh, .ref xTr, .ref xCo, .int 0, .ref xAl, .ref xNl, .ref xDr, .int 0, .ref xFa, .int 0, .int 0, .int 0])), (xWh, .inr (10, [.int 0, vh1, vh2, vh3, vh4, vh5, vh6, vh7, vh8])), (yM, .inr (12, [.int 0, .ref yT, .int 0, .int 0, .ref yF, vq5, .int 0, .int 0, .int 0, vq9, vq10, vq11, vq12, vq13, vq14, vq15, vq16, vq17, vq18, .ref yC, vq20, vq21, vq22, vq23, vq24, vq25, vq26, vq27, vq28, vq29, vq30, vq31, .int 0, .int 0, .int 0, .int 0, .int 0, .int 0, .int 0, .int 0, .int 0, .int 0, .int 0, .int 0, .int 0, .int 0, .long 0, .ref yL, .ref yD, .ref yB, vq50, vq51, vq52, vq53, vq54, vq55, vq56, vq57, .int 0, .int 0, .int 0, .int 0, .int 0, .int 0, vq64, vq65, .int (-1), .int (-1), vq68, vq69, vq70, vq71, vq72, vq73, vq74, vq75, vq76, vq77, vq78, vq79, vq80, vq81, vq82, vq83, .int 0, .int 0, .int (-1), .int 0, vq88, .int 0, vq90, vq91, vq92, vq93, vq94, .int 0]))]) (hS : va_S A s.heap H locs) (ls : Array Slot) (hl : lv_has ls 7 [(0, .ref b), (1, .ref xX), (2, .ref yM), (3, .ref yO), (4, .int 0)]) : W p l e room_1 s m #[Value.ref b] below meth c H locs 156 13846 (lw_Z below #[Value.ref b] s) (F0 m 500 ls []) := by
  obtain ⟨hx, hb, hr, hml, hown, hts0, hX, hbl, hlocks, hgv⟩ := id C0
  have hb : c.code = cL_law := hb
  have hown : s.vm.findClass RL = some m.cls := hown
  have hts : ∀ w ∈ (.initialized RL :: lw_good : List Cond), w.before #[Value.ref b] s = true := fun w h => (List.mem_cons.mp h).elim (fun q => by rw [q]; exact hts0 _ (lwgT kw_1_0)) (fun q => hts0 w (lwgT q))
  have hA : ∀ q : Nat, s.heap.size ≤ q → A q := fun q h => by rw [hAe]; exact h
  have hbA : ¬ A b := by rw [hAe]; exact Nat.not_le.mpr hbl
  refine lv_aload_n hx hb dL_law_500 rfl (lv_at hl 1 rfl) ?_
  refine lv_aload_n hx hb dL_law_501 rfl (lv_at hl 0 rfl) ?_
  refine lv_iload hx hb dL_law_502 (lv_at hl 4 rfl) ?_
  refine lv_iconst (v := 1) hx hb dL_law_504 (by decide) ?_
  refine lv_iadd hx hb dL_law_505 ?_
  refine my_ti (y := 1) (by decide) ?_
  refine va_sld hx hb hX hbl hbA hS (by rw [hL7]; unfold vp_in; decide) dL_law_506 ?_
  refine lv_topi (fun v_1 ev_1 => ?_)
  refine lv_aload_n hx hb dL_law_507 rfl (lv_at hl 0 rfl) ?_
  refine lv_iload hx hb dL_law_508 (lv_at hl 4 rfl) ?_
  refine lv_iconst (v := 2) hx hb dL_law_510 (by decide) ?_
  refine lv_iadd hx hb dL_law_511 ?_
  refine my_ti (y := 2) (by decide) ?_
  refine va_sld hx hb hX hbl hbA hS (by rw [hL7]; unfold vp_in; decide) dL_law_512 ?_
  refine lv_topi (fun v_2 ev_2 => ?_)
  have hPc := hP.sub (ws' := [(xX, .inr (11, [.ref xT, .int 0, .ref xW, .ref xR, .ref xM, .ref xS, .int (-1), .int 0, .int (-1)])), (xW, .inr (7, [.ref xRo, .ref xPe, .ref xWh, .ref xTr, .ref xCo, .int 0, .ref xAl, .ref xNl, .ref xDr, .int 0, .ref xFa, .int 0, .int 0, .int 0])), (xWh, .inr (10, [.int 0, vh1, vh2, vh3, vh4, vh5, vh6, vh7, vh8]))]) [0, 1, 2] rfl
  have hDc := hD.sub (ws' := [(xX, .inr (11, [.ref xT, .int 0, .ref xW, .ref xR, .ref xM, .ref xS, .int (-1), .int 0, .int (-1)])), (xW, .inr (7, [.ref xRo, .ref xPe, .ref xWh, .ref xTr, .ref xCo, .int 0, .ref xAl, .ref xNl, .ref xDr, .int 0, .ref xFa, .int 0, .int 0, .int 0])), (xWh, .inr (10, [.int 0, vh1, vh2, vh3, vh4, vh5, vh6, vh7, vh8]))]) [0, 1, 2] (by decide) rfl
  have hKc := hK.sub (tys' := []) [] rfl
  have hFc := va_free (wc := [(xX, .inr (11, [.ref xT, .int 0, .ref xW, .ref xR, .ref xM, .ref xS, .int (-1), .int 0, .int (-1)])), (xW, .inr (7, [.ref xRo, .ref xPe, .ref xWh, .ref xTr, .ref xCo, .int 0, .ref xAl, .ref xNl, .ref xDr, .int 0, .ref xFa, .int 0, .int 0, .int 0])), (xWh, .inr (10, [.int 0, vh1, vh2, vh3, vh4, vh5, vh6, vh7, vh8]))]) hD hS hA [0, 1, 2] rfl
  refine va_calli (va_runV (As := [.int v_1, .int v_2]) (rest := []) ⟨hx, hb, hml, hown, hts⟩ (x_insure l dC dI H.size v_1 v_2 xX xT xW xR xM xS xRo xPe xWh xTr xCo xAl xNl xDr xFa (vh1 : Value) (vh2 : Value) (vh3 : Value) (vh4 : Value) (vh5 : Value) (vh6 : Value) (vh7 : Value) (vh8 : Value)) (cwV 2 hts (gV kw_3_194 kw_3_195 kw_3_196 kw_1_1 kw_3_197) rfl rfl rfl (by decide +kernel) ⟨Nat.le_of_ble_eq_true rfl, Nat.le_of_ble_eq_true rfl⟩) ⟨fun a U g mk q => by obtain ⟨q0, q1, qP, qK, qD⟩ := q; exact ⟨q0, q1, qP, va_K.moved (u := U) (U := U.calling g mk a) (Vm.Alike.refl U.vm) qK, qD⟩, va_recv hKc hPc (ci := 11) (q0 := 0) rfl rfl, fun U hU hW => ⟨rfl, by rw [hU], by rw [hU]; exact hPc, va_K.moved hW.alike hKc, hDc.weaken (fun _ _ _ _ => trivial)⟩⟩ rfl rfl hl.1 rfl (lv_room (Nat.le_of_ble_eq_true rfl)) dL_law_513 ⟨Nat.le_of_ble_eq_true rfl, Nat.le_of_ble_eq_true rfl⟩) hS (fun q _ h => hFc q h) hFc (fun r_3 u t H1 locs ht hvm hw hB hz1 hk1 hS => ?_)
  obtain ⟨hP, hD⟩ := va_join (wr := [(yM, .inr (12, [.int 0, .ref yT, .int 0, .int 0, .ref yF, vq5, .int 0, .int 0, .int 0, vq9, vq10, vq11, vq12, vq13, vq14, vq15, vq16, vq17, vq18, .ref yC, vq20, vq21, vq22, vq23, vq24, vq25, vq26, vq27, vq28, vq29, vq30, vq31, .int 0, .int 0, .int 0, .int 0, .int 0, .int 0, .int 0, .int 0, .int 0, .int 0, .int 0, .int 0, .int 0, .int 0, .long 0, .ref yL, .ref yD, .ref yB, vq50, vq51, vq52, vq53, vq54, vq55, vq56, vq57, .int 0, .int 0, .int 0, .int 0, .int 0, .int 0, vq64, vq65, .int (-1), .int (-1), vq68, vq69, vq70, vq71, vq72, vq73, vq74, vq75, vq76, vq77, vq78, vq79, vq80, vq81, vq82, vq83, .int 0, .int 0, .int (-1), .int 0, vq88, .int 0, vq90, vq91, vq92, vq93, vq94, .int 0]))]) (w1 := []) hP hD [0, 1, 2] [3] rfl rfl (by decide) (by decide) hk1 hFc (fun k q h => by simp at h) ⟨fun i j p q h => by simp at h, fun k q h => by simp at h⟩
  have hK := hK.sub (tys' := []) [] rfl
  generalize H1 = H at hP hS ⊢
  have hP : va_P (dC, dI) vwCl [(yM, .inr (12, [.int 0, .ref yT, .int 0, .int 0, .ref yF, vq5, .int 0, .int 0, .int 0, vq9, vq10, vq11, vq12, vq13, vq14, vq15, vq16, vq17, vq18, .ref yC, vq20, vq21, vq22, vq23, vq24, vq25, vq26, vq27, vq28, vq29, vq30, vq31, .int 0, .int 0, .int 0, .int 0, .int 0, .int 0, .int 0, .int 0, .int 0, .int 0, .int 0, .int 0, .int 0, .int 0, .long 0, .ref yL, .ref yD, .ref yB, vq50, vq51, vq52, vq53, vq54, vq55, vq56, vq57, .int 0, .int 0, .int 0, .int 0, .int 0, .int 0, vq64, vq65, .int (-1), .int (-1), vq68, vq69, vq70, vq71, vq72, vq73, vq74, vq75, vq76, vq77, vq78, vq79, vq80, vq81, vq82, vq83, .int 0, .int 0, .int (-1), .int 0, vq88, .int 0, vq90, vq91, vq92, vq93, vq94, .int 0]))] H := hP
  have hD : va_D A [(yM, .inr (12, [.int 0, .ref yT, .int 0, .int 0, .ref yF, vq5, .int 0, .int 0, .int 0, vq9, vq10, vq11, vq12, vq13, vq14, vq15, vq16, vq17, vq18, .ref yC, vq20, vq21, vq22, vq23, vq24, vq25, vq26, vq27, vq28, vq29, vq30, vq31, .int 0, .int 0, .int 0, .int 0, .int 0, .int 0, .int 0, .int 0, .int 0, .int 0, .int 0, .int 0, .int 0, .int 0, .long 0, .ref yL, .ref yD, .ref yB, vq50, vq51, vq52, vq53, vq54, vq55, vq56, vq57, .int 0, .int 0, .int 0, .int 0, .int 0, .int 0, vq64, vq65, .int (-1), .int (-1), vq68, vq69, vq70, vq71, vq72, vq73, vq74, vq75, vq76, vq77, vq78, vq79, vq80, vq81, vq82, vq83, .int 0, .int 0, .int (-1), .int 0, vq88, .int 0, vq90, vq91, vq92, vq93, vq94, .int 0]))] := hD
  have hK : va_K (dC, dI) vwCl [] s := hK
  subst hw
  refine lv_aload_n hx hb dL_law_516 rfl (lv_at hl 2 rfl) ?_
  refine lv_aload_n hx hb dL_law_517 rfl (lv_at hl 0 rfl) ?_
  refine lv_iload hx hb dL_law_518 (lv_at hl 4 rfl) ?_
  refine lv_iconst (v := 1) hx hb dL_law_520 (by decide) ?_
  refine lv_iadd hx hb dL_law_521 ?_
  refine my_ti (y := 1) (by decide) ?_
  refine va_sld hx hb hX hbl hbA hS (by rw [hL7]; unfold vp_in; decide) dL_law_522 ?_
  refine lv_topi (fun v_5 ev_5 => ?_)
  refine lv_aload_n hx hb dL_law_523 rfl (lv_at hl 0 rfl) ?_
  refine lv_iload hx hb dL_law_524 (lv_at hl 4 rfl) ?_
  refine lv_iconst (v := 2) hx hb dL_law_526 (by decide) ?_
  refine lv_iadd hx hb dL_law_527 ?_
  refine my_ti (y := 2) (by decide) ?_
  refine va_sld hx hb hX hbl hbA hS (by rw [hL7]; unfold vp_in; decide) dL_law_528 ?_
  refine lv_topi (fun v_6 ev_6 => ?_)
  have hPc := hP.sub (ws' := [(yM, .inr (12, [.int 0, .ref yT, .int 0, .int 0, .ref yF, vq5, .int 0, .int 0, .int 0, vq9, vq10, vq11, vq12, vq13, vq14, vq15, vq16, vq17, vq18, .ref yC, vq20, vq21, vq22, vq23, vq24, vq25, vq26, vq27, vq28, vq29, vq30, vq31, .int 0, .int 0, .int 0, .int 0, .int 0, .int 0, .int 0, .int 0, .int 0, .int 0, .int 0, .int 0, .int 0, .int 0, .long 0, .ref yL, .ref yD, .ref yB, vq50, vq51, vq52, vq53, vq54, vq55, vq56, vq57, .int 0, .int 0, .int 0, .int 0, .int 0, .int 0, vq64, vq65, .int (-1), .int (-1), vq68, vq69, vq70, vq71, vq72, vq73, vq74, vq75, vq76, vq77, vq78, vq79, vq80, vq81, vq82, vq83, .int 0, .int 0, .int (-1), .int 0, vq88, .int 0, vq90, vq91, vq92, vq93, vq94, .int 0]))]) [0] rfl
  have hDc := hD.sub (ws' := [(yM, .inr (12, [.int 0, .ref yT, .int 0, .int 0, .ref yF, vq5, .int 0, .int 0, .int 0, vq9, vq10, vq11, vq12, vq13, vq14, vq15, vq16, vq17, vq18, .ref yC, vq20, vq21, vq22, vq23, vq24, vq25, vq26, vq27, vq28, vq29, vq30, vq31, .int 0, .int 0, .int 0, .int 0, .int 0, .int 0, .int 0, .int 0, .int 0, .int 0, .int 0, .int 0, .int 0, .int 0, .long 0, .ref yL, .ref yD, .ref yB, vq50, vq51, vq52, vq53, vq54, vq55, vq56, vq57, .int 0, .int 0, .int 0, .int 0, .int 0, .int 0, vq64, vq65, .int (-1), .int (-1), vq68, vq69, vq70, vq71, vq72, vq73, vq74, vq75, vq76, vq77, vq78, vq79, vq80, vq81, vq82, vq83, .int 0, .int 0, .int (-1), .int 0, vq88, .int 0, vq90, vq91, vq92, vq93, vq94, .int 0]))]) [0] (by decide) rfl
  have hKc := hK.sub (tys' := []) [] rfl
  have hFc := va_free (wc := [(yM, .inr (12, [.int 0, .ref yT, .int 0, .int 0, .ref yF, vq5, .int 0, .int 0, .int 0, vq9, vq10, vq11, vq12, vq13, vq14, vq15, vq16, vq17, vq18, .ref yC, vq20, vq21, vq22, vq23, vq24, vq25, vq26, vq27, vq28, vq29, vq30, vq31, .int 0, .int 0, .int 0, .int 0, .int 0, .int 0, .int 0, .int 0, .int 0, .int 0, .int 0, .int 0, .int 0, .int 0, .long 0, .ref yL, .ref yD, .ref yB, vq50, vq51, vq52, vq53, vq54, vq55, vq56, vq57, .int 0, .int 0, .int 0, .int 0, .int 0, .int 0, vq64, vq65, .int (-1), .int (-1), vq68, vq69, vq70, vq71, vq72, vq73, vq74, vq75, vq76, vq77, vq78, vq79, vq80, vq81, vq82, vq83, .int 0, .int 0, .int (-1), .int 0, vq88, .int 0, vq90, vq91, vq92, vq93, vq94, .int 0]))]) hD hS hA [0] rfl
  refine va_calli (va_runV (As := [.int v_5, .int v_6]) (rest := [.int 0]) ⟨hx, hb, hml, hown, hts⟩ (m_insure l dC dI H.size v_5 v_6 yM yT yF (vq5 : Value) (vq9 : Value) (vq10 : Value) (vq11 : Value) (vq12 : Value) (vq13 : Value) (vq14 : Value) (vq15 : Value) (vq16 : Value) (vq17 : Value) (vq18 : Value) yC (vq20 : Value) (vq21 : Value) (vq22 : Value) (vq23 : Value) (vq24 : Value) (vq25 : Value) (vq26 : Value) (vq27 : Value) (vq28 : Value) (vq29 : Value) (vq30 : Value) (vq31 : Value) yL yD yB (vq50 : Value) (vq51 : Value) (vq52 : Value) (vq53 : Value) (vq54 : Value) (vq55 : Value) (vq56 : Value) (vq57 : Value) (vq64 : Value) (vq65 : Value) (vq68 : Value) (vq69 : Value) (vq70 : Value) (vq71 : Value) (vq72 : Value) (vq73 : Value) (vq74 : Value) (vq75 : Value) (vq76 : Value) (vq77 : Value) (vq78 : Value) (vq79 : Value) (vq80 : Value) (vq81 : Value) (vq82 : Value) (vq83 : Value) (vq88 : Value) (vq90 : Value) (vq91 : Value) (vq92 : Value) (vq93 : Value) (vq94 : Value)) (cwV 2 hts (gV kw_8_37 kw_8_38 kw_8_39 kw_1_15 kw_8_40) rfl rfl rfl (by decide +kernel) ⟨Nat.le_of_ble_eq_true rfl, Nat.le_of_ble_eq_true rfl⟩) ⟨fun a U g mk q => by obtain ⟨q0, q1, qP, qK, qD⟩ := q; exact ⟨q0, q1, qP, va_K.moved (u := U) (U := U.calling g mk a) (Vm.Alike.refl U.vm) qK, qD⟩, va_recv hKc hPc (ci := 12) (q0 := 0) rfl rfl, fun U hU hW => ⟨rfl, by rw [hU], by rw [hU]; exact hPc, va_K.moved hW.alike hKc, hDc.weaken (fun _ _ _ _ => trivial)⟩⟩ rfl rfl hl.1 rfl (lv_room (Nat.le_of_ble_eq_true rfl)) dL_law_529 ⟨Nat.le_of_ble_eq_true rfl, Nat.le_of_ble_eq_true rfl⟩) hS (fun q _ h => hFc q h) hFc (fun r_7 u t H1 locs ht hvm hw hB hz1 hk1 hS => ?_)
  obtain ⟨hP, hD⟩ := va_join (wr := []) (w1 := []) hP hD [0] [] rfl rfl (by decide) (by decide) hk1 hFc (fun k q h => by simp at h) ⟨fun i j p q h => by simp at h, fun k q h => by simp at h⟩
  have hK := hK.sub (tys' := []) [] rfl
  generalize H1 = H at hP hS ⊢
  have hP : va_P (dC, dI) vwCl [] H := hP
  have hD : va_D A [] := hD
  have hK : va_K (dC, dI) vwCl [] s := hK
  subst hw
  refine lv_icmp_eq (tgt := 1042) hx hb dL_law_532 (by decide) (fun c_9 => ?_) (fun c_9 => ?_)
  rotate_left
  · exact (c_9 (by decide)).elim
  refine lv_iinc (v := 7) (lv' := [(4, .int 7), (0, .ref b), (1, .ref xX), (2, .ref yM), (3, .ref yO)]) hx hb dL_law_1042 hl (k := 4) rfl (by decide) (by decide) rfl (fun ls hl => ?_)
  refine lv_goto (tgt := 23) hx hb dL_law_1045 (by decide) ?_
  refine lv_iload hx hb dL_law_23 (lv_at hl 0 rfl) ?_
  refine lv_aload_n hx hb dL_law_25 rfl (lv_at hl 1 rfl) ?_
  refine va_slen hx hb hX hbl hbA hS dL_law_26 ?_
  refine my_ti (y := 7) (by rw [hL7]; rfl) ?_
  refine lv_bipush (v := 7) hx hb dL_law_27 (by decide) ?_
  refine lv_isub hx hb dL_law_29 ?_
  refine my_ti (y := 0) (by decide) ?_
  refine lv_icmp_gt (tgt := 1048) hx hb dL_law_30 (by decide) (fun c_10 => ?_) (fun c_10 => ?_)
  rotate_left
  · exact (c_10 (by decide)).elim
  refine lv_iconst (v := 1) hx hb dL_law_1048 (by decide) ?_
  refine va_forget (fun q hq => by have h9 := hS.2.2 q hq; rw [hAe] at h9; exact h9) ?_
  refine W.widen (k := 600002) (n := 7302232) (Nat.le_of_ble_eq_true rfl) (Nat.le_of_ble_eq_true rfl) ?_
  exact lw_ret hx hb hr hlocks dL_law_1049
set_option maxHeartbeats 4000000 in
set_option maxRecDepth 100000 in
theorem law_9 {p : Program} {e : Env} {s : State} {m : MethodId} {below : List Frame} {meth : Method} {c : Code} (l : Launch) {b L : Nat} {xs : Nat → Int32} (hL7 : L = 7) (C0 : lw_At p s m meth c b L xs) (dC : Nat → ClassId) (dI : Nat → Nat → Nat) (A : Nat → Prop) (hAe : A = fun q => s.heap.size ≤ q) (yO : Nat) (xX : Nat) (xT : Nat) (xW : Nat) (xR : Nat) (xM : Nat) (xS : Nat) (xRo : Nat) (xPe : Nat) (xWh : Nat) (xTr : Nat) (xCo : Nat) (xAl : Nat) (xNl : Nat) (xDr : Nat) (xFa : Nat) (vh1 : Value) (vh2 : Value) (vh3 : Value) (vh4 : Value) (vh5 : Value) (vh6 : Value) (vh7 : Value) (vh8 : Value) (yM : Nat) (yT : Nat) (yF : Nat) (vq5 : Value) (vq9 : Value) (vq10 : Value) (vq11 : Value) (vq12 : Value) (vq13 : Value) (vq14 : Value) (vq15 : Value) (vq16 : Value) (vq17 : Value) (vq18 : Value) (yC : Nat) (vq20 : Value) (vq21 : Value) (vq22 : Value) (vq23 : Value) (vq24 : Value) (vq25 : Value) (vq26 : Value) (vq27 : Value) (vq28 : Value) (vq29 : Value) (vq30 : Value) (vq31 : Value) (yL : Nat) (yD : Nat) (yB : Nat) (vq50 : Value) (vq51 : Value) (vq52 : Value) (vq53 : Value) (vq54 : Value) (vq55 : Value) (vq56 : Value) (vq57 : Value) (vq64 : Value) (vq65 : Value) (vq68 : Value) (vq69 : Value) (vq70 : Value) (vq71 : Value) (vq72 : Value) (vq73 : Value) (vq74 : Value) (vq75 : Value) (vq76 : Value) (vq77 : Value) (vq78 : Value) (vq79 : Value) (vq80 : Value) (vq81 : Value) (vq82 : Value) (vq83 : Value) (vq88 : Value) (vq90 : Value) (vq91 : Value) (vq92 : Value) (vq93 : Value) (vq94 : Value) (H : Heap) (locs : List Loc) (hK : va_K (dC, dI) vwCl [] s) (hP : va_P (dC, dI) vwCl [(xX, .inr (11, [.ref xT, .int 0, .ref xW, .ref xR, .ref xM, .ref xS, .int (-1), .int 0, .int (-1)])), (xW, .inr (7, [.ref xRo, .ref xPe, .ref xWh, .ref xTr, .ref xCo, .int 0, .ref xAl, .ref xNl, .ref xDr, .int 0, .ref xFa, .int 0, .int 0, .int 0])), (xWh, .inr (10, [.int 0, vh1, vh2, vh3, vh4, vh5, vh6, vh7, vh8])), (yM, .inr (12, [.int 0, .ref yT, .int 0, .int 0, .ref yF, vq5, .int 0, .int 0, .int 0, vq9, vq10, vq11, vq12, vq13, vq14, vq15, vq16, vq17, vq18, .ref yC, vq20, vq21, vq22, vq23, vq24, vq25, vq26, vq27, vq28, vq29, vq30, vq31, .int 0, .int 0, .int 0, .int 0, .int 0, .int 0, .int 0, .int 0, .int 0, .int 0, .int 0, .int 0, .int 0, .int 0, .long 0, .ref yL, .ref yD, .ref yB, vq50, vq51, vq52, vq53, vq54, vq55, vq56, vq57, .int 0, .int 0, .int 0, .int 0, .int 0, .int 0, vq64, vq65, .int (-1), .int (-1), vq68, vq69, vq70, vq71, vq72, vq73, vq74, vq75, vq76, vq77, vq78, vq79, vq80, vq81, vq82, vq83, .int 0, .int 0, .int (-1), .int 0, vq88, .int 0, vq90, vq91, vq92, vq93, vq94, .int 0]))] H) (hD : va_D A [(xX, .inr (11, [.ref xT, .int 0, .ref xW, .ref xR, .ref xM, .ref xS, .int (-1), .int 0, .int (-1)])), (xW, .inr (7, [.ref xRo, .ref xPe, .ref xWh, .ref xTr, .ref xCo, .int 0, .ref xAl, .ref xNl, .ref xDr, .int 0, .ref xFa, .int 0, .int 0, .int 0])), (xWh, .inr (10, [.int 0, vh1, vh2, vh3, vh4, vh5, vh6, vh7, vh8])), (yM, .inr (12, [.int 0, .ref yT, .int 0, .int 0, .ref yF, vq5, .int 0, .int 0, .int 0, vq9, vq10, vq11, vq12, vq13, vq14, vq15, vq16, vq17, vq18, .ref yC, vq20, vq21, vq22, vq23, vq24, vq25, vq26, vq27, vq28, vq29, vq30, vq31, .int 0, .int 0, .int 0, .int 0, .int 0, .int 0, .int 0, .int 0, .int 0, .int 0, .int 0, .int 0, .int 0, .int 0, .long 0, .ref yL, .ref yD, .ref yB, vq50, vq51, vq52, vq53, vq54, vq55, vq56, vq57, .int 0, .int 0, .int 0, .int 0, .int 0, .int 0, vq64, vq65, .int (-1), .int (-1), vq68, vq69, vq70, vq71, vq72, vq73, vq74, vq75, vq76, vq77, vq78, vq79, vq80, vq81, vq82, vq83, .int 0, .int 0, .int (-1), .int 0, vq88, .int 0, vq90, vq91, vq92, vq93, vq94, .int 0]))]) (hS : va_S A s.heap H locs) (ls : Array Slot) (hl : lv_has ls 7 [(0, .ref b), (1, .ref xX), (2, .ref yM), (3, .ref yO), (4, .int 0)]) : W p l e room_1 s m #[Value.ref b] below meth c H locs 156 13846 (lw_Z below #[Value.ref b] s) (F0 m 537 ls []) := by
  obtain ⟨hx, hb, hr, hml, hown, hts0, hX, hbl, hlocks, hgv⟩ := id C0
  have hb : c.code = cL_law := hb
  have hown : s.vm.findClass RL = some m.cls := hown
  have hts : ∀ w ∈ (.initialized RL :: lw_good : List Cond), w.before #[Value.ref b] s = true := fun w h => (List.mem_cons.mp h).elim (fun q => by rw [q]; exact hts0 _ (lwgT kw_1_0)) (fun q => hts0 w (lwgT q))
  have hA : ∀ q : Nat, s.heap.size ≤ q → A q := fun q h => by rw [hAe]; exact h
  have hbA : ¬ A b := by rw [hAe]; exact Nat.not_le.mpr hbl
  refine lv_aload_n hx hb dL_law_537 rfl (lv_at hl 1 rfl) ?_
  refine lv_aload_n hx hb dL_law_538 rfl (lv_at hl 0 rfl) ?_
  refine lv_iload hx hb dL_law_539 (lv_at hl 4 rfl) ?_
  refine lv_iconst (v := 1) hx hb dL_law_541 (by decide) ?_
  refine lv_iadd hx hb dL_law_542 ?_
  refine my_ti (y := 1) (by decide) ?_
  refine va_sld hx hb hX hbl hbA hS (by rw [hL7]; unfold vp_in; decide) dL_law_543 ?_
  refine lv_topi (fun v_1 ev_1 => ?_)
  refine lv_aload_n hx hb dL_law_544 rfl (lv_at hl 0 rfl) ?_
  refine lv_iload hx hb dL_law_545 (lv_at hl 4 rfl) ?_
  refine lv_iconst (v := 2) hx hb dL_law_547 (by decide) ?_
  refine lv_iadd hx hb dL_law_548 ?_
  refine my_ti (y := 2) (by decide) ?_
  refine va_sld hx hb hX hbl hbA hS (by rw [hL7]; unfold vp_in; decide) dL_law_549 ?_
  refine lv_topi (fun v_2 ev_2 => ?_)
  refine lv_aload_n hx hb dL_law_550 rfl (lv_at hl 0 rfl) ?_
  refine lv_iload hx hb dL_law_551 (lv_at hl 4 rfl) ?_
  refine lv_iconst (v := 3) hx hb dL_law_553 (by decide) ?_
  refine lv_iadd hx hb dL_law_554 ?_
  refine my_ti (y := 3) (by decide) ?_
  refine va_sld hx hb hX hbl hbA hS (by rw [hL7]; unfold vp_in; decide) dL_law_555 ?_
  refine lv_topi (fun v_3 ev_3 => ?_)
  refine lv_aload_n hx hb dL_law_556 rfl (lv_at hl 0 rfl) ?_
  refine lv_iload hx hb dL_law_557 (lv_at hl 4 rfl) ?_
  refine lv_iconst (v := 4) hx hb dL_law_559 (by decide) ?_
  refine lv_iadd hx hb dL_law_560 ?_
  refine my_ti (y := 4) (by decide) ?_
  refine va_sld hx hb hX hbl hbA hS (by rw [hL7]; unfold vp_in; decide) dL_law_561 ?_
  refine lv_topi (fun v_4 ev_4 => ?_)
  refine lv_aload_n hx hb dL_law_562 rfl (lv_at hl 0 rfl) ?_
  refine lv_iload hx hb dL_law_563 (lv_at hl 4 rfl) ?_
  refine lv_iconst (v := 5) hx hb dL_law_565 (by decide) ?_
  refine lv_iadd hx hb dL_law_566 ?_
  refine my_ti (y := 5) (by decide) ?_
  refine va_sld hx hb hX hbl hbA hS (by rw [hL7]; unfold vp_in; decide) dL_law_567 ?_
  refine lv_topi (fun v_5 ev_5 => ?_)
  refine lv_aload_n hx hb dL_law_568 rfl (lv_at hl 0 rfl) ?_
  refine lv_iload hx hb dL_law_569 (lv_at hl 4 rfl) ?_
  refine lv_bipush (v := 6) hx hb dL_law_571 (by decide) ?_
  refine lv_iadd hx hb dL_law_573 ?_
  refine my_ti (y := 6) (by decide) ?_
  refine va_sld hx hb hX hbl hbA hS (by rw [hL7]; unfold vp_in; decide) dL_law_574 ?_
  refine lv_topi (fun v_6 ev_6 => ?_)
  have hPc := hP.sub (ws' := [(xX, .inr (11, [.ref xT, .int 0, .ref xW, .ref xR, .ref xM, .ref xS, .int (-1), .int 0, .int (-1)])), (xW, .inr (7, [.ref xRo, .ref xPe, .ref xWh, .ref xTr, .ref xCo, .int 0, .ref xAl, .ref xNl, .ref xDr, .int 0, .ref xFa, .int 0, .int 0, .int 0])), (xWh, .inr (10, [.int 0, vh1, vh2, vh3, vh4, vh5, vh6, vh7, vh8]))]) [0, 1, 2] rfl
  have hDc := hD.sub (ws' := [(xX, .inr (11, [.ref xT, .int 0, .ref xW, .ref xR, .ref xM, .ref xS, .int (-1), .int 0, .int (-1)])), (xW, .inr (7, [.ref xRo, .ref xPe, .ref xWh, .ref xTr, .ref xCo, .int 0, .ref xAl, .ref xNl, .ref xDr, .int 0, .ref xFa, .int 0, .int 0, .int 0])), (xWh, .inr (10, [.int 0, vh1, vh2, vh3, vh4, vh5, vh6, vh7, vh8]))]) [0, 1, 2] (by decide) rfl
  have hKc := hK.sub (tys' := []) [] rfl
  have hFc := va_free (wc := [(xX, .inr (11, [.ref xT, .int 0, .ref xW, .ref xR, .ref xM, .ref xS, .int (-1), .int 0, .int (-1)])), (xW, .inr (7, [.ref xRo, .ref xPe, .ref xWh, .ref xTr, .ref xCo, .int 0, .ref xAl, .ref xNl, .ref xDr, .int 0, .ref xFa, .int 0, .int 0, .int 0])), (xWh, .inr (10, [.int 0, vh1, vh2, vh3, vh4, vh5, vh6, vh7, vh8]))]) hD hS hA [0, 1, 2] rfl
  refine va_calli (va_runV (As := [.int v_1, .int v_2, .int v_3, .int v_4, .int v_5, .int v_6]) (rest := []) ⟨hx, hb, hml, hown, hts⟩ (x_trip l dC dI H.size v_1 v_2 v_3 v_4 v_5 v_6 xX xT xW xR xM xS xRo xPe xWh xTr xCo xAl xNl xDr xFa (vh1 : Value) (vh2 : Value) (vh3 : Value) (vh4 : Value) (vh5 : Value) (vh6 : Value) (vh7 : Value) (vh8 : Value)) (cwV 6 hts (gV kw_3_202 kw_3_203 kw_3_204 kw_1_1 kw_3_205) rfl rfl rfl (by decide +kernel) ⟨Nat.le_of_ble_eq_true rfl, Nat.le_of_ble_eq_true rfl⟩) ⟨fun a U g mk q => by obtain ⟨q0, q1, qP, qK, qD⟩ := q; exact ⟨q0, q1, qP, va_K.moved (u := U) (U := U.calling g mk a) (Vm.Alike.refl U.vm) qK, qD⟩, va_recv hKc hPc (ci := 11) (q0 := 0) rfl rfl, fun U hU hW => ⟨rfl, by rw [hU], by rw [hU]; exact hPc, va_K.moved hW.alike hKc, hDc.weaken (fun _ _ _ _ => trivial)⟩⟩ rfl rfl hl.1 rfl (lv_room (Nat.le_of_ble_eq_true rfl)) dL_law_575 ⟨Nat.le_of_ble_eq_true rfl, Nat.le_of_ble_eq_true rfl⟩) hS (fun q _ h => hFc q h) hFc (fun r_7 u t H1 locs ht hvm hw hB hz1 hk1 hS => ?_)
  obtain ⟨hP, hD⟩ := va_join (wr := [(yM, .inr (12, [.int 0, .ref yT, .int 0, .int 0, .ref yF, vq5, .int 0, .int 0, .int 0, vq9, vq10, vq11, vq12, vq13, vq14, vq15, vq16, vq17, vq18, .ref yC, vq20, vq21, vq22, vq23, vq24, vq25, vq26, vq27, vq28, vq29, vq30, vq31, .int 0, .int 0, .int 0, .int 0, .int 0, .int 0, .int 0, .int 0, .int 0, .int 0, .int 0, .int 0, .int 0, .int 0, .long 0, .ref yL, .ref yD, .ref yB, vq50, vq51, vq52, vq53, vq54, vq55, vq56, vq57, .int 0, .int 0, .int 0, .int 0, .int 0, .int 0, vq64, vq65, .int (-1), .int (-1), vq68, vq69, vq70, vq71, vq72, vq73, vq74, vq75, vq76, vq77, vq78, vq79, vq80, vq81, vq82, vq83, .int 0, .int 0, .int (-1), .int 0, vq88, .int 0, vq90, vq91, vq92, vq93, vq94, .int 0]))]) (w1 := []) hP hD [0, 1, 2] [3] rfl rfl (by decide) (by decide) hk1 hFc (fun k q h => by simp at h) ⟨fun i j p q h => by simp at h, fun k q h => by simp at h⟩
  have hK := hK.sub (tys' := []) [] rfl
  generalize H1 = H at hP hS ⊢
  have hP : va_P (dC, dI) vwCl [(yM, .inr (12, [.int 0, .ref yT, .int 0, .int 0, .ref yF, vq5, .int 0, .int 0, .int 0, vq9, vq10, vq11, vq12, vq13, vq14, vq15, vq16, vq17, vq18, .ref yC, vq20, vq21, vq22, vq23, vq24, vq25, vq26, vq27, vq28, vq29, vq30, vq31, .int 0, .int 0, .int 0, .int 0, .int 0, .int 0, .int 0, .int 0, .int 0, .int 0, .int 0, .int 0, .int 0, .int 0, .long 0, .ref yL, .ref yD, .ref yB, vq50, vq51, vq52, vq53, vq54, vq55, vq56, vq57, .int 0, .int 0, .int 0, .int 0, .int 0, .int 0, vq64, vq65, .int (-1), .int (-1), vq68, vq69, vq70, vq71, vq72, vq73, vq74, vq75, vq76, vq77, vq78, vq79, vq80, vq81, vq82, vq83, .int 0, .int 0, .int (-1), .int 0, vq88, .int 0, vq90, vq91, vq92, vq93, vq94, .int 0]))] H := hP
  have hD : va_D A [(yM, .inr (12, [.int 0, .ref yT, .int 0, .int 0, .ref yF, vq5, .int 0, .int 0, .int 0, vq9, vq10, vq11, vq12, vq13, vq14, vq15, vq16, vq17, vq18, .ref yC, vq20, vq21, vq22, vq23, vq24, vq25, vq26, vq27, vq28, vq29, vq30, vq31, .int 0, .int 0, .int 0, .int 0, .int 0, .int 0, .int 0, .int 0, .int 0, .int 0, .int 0, .int 0, .int 0, .int 0, .long 0, .ref yL, .ref yD, .ref yB, vq50, vq51, vq52, vq53, vq54, vq55, vq56, vq57, .int 0, .int 0, .int 0, .int 0, .int 0, .int 0, vq64, vq65, .int (-1), .int (-1), vq68, vq69, vq70, vq71, vq72, vq73, vq74, vq75, vq76, vq77, vq78, vq79, vq80, vq81, vq82, vq83, .int 0, .int 0, .int (-1), .int 0, vq88, .int 0, vq90, vq91, vq92, vq93, vq94, .int 0]))] := hD
  have hK : va_K (dC, dI) vwCl [] s := hK
  subst hw
  refine lv_aload_n hx hb dL_law_578 rfl (lv_at hl 2 rfl) ?_
  refine lv_aload_n hx hb dL_law_579 rfl (lv_at hl 0 rfl) ?_
  refine lv_iload hx hb dL_law_580 (lv_at hl 4 rfl) ?_
  refine lv_iconst (v := 1) hx hb dL_law_582 (by decide) ?_
  refine lv_iadd hx hb dL_law_583 ?_
  refine my_ti (y := 1) (by decide) ?_
  refine va_sld hx hb hX hbl hbA hS (by rw [hL7]; unfold vp_in; decide) dL_law_584 ?_
  refine lv_topi (fun v_9 ev_9 => ?_)
  refine lv_aload_n hx hb dL_law_585 rfl (lv_at hl 0 rfl) ?_
  refine lv_iload hx hb dL_law_586 (lv_at hl 4 rfl) ?_
  refine lv_iconst (v := 2) hx hb dL_law_588 (by decide) ?_
  refine lv_iadd hx hb dL_law_589 ?_
  refine my_ti (y := 2) (by decide) ?_
  refine va_sld hx hb hX hbl hbA hS (by rw [hL7]; unfold vp_in; decide) dL_law_590 ?_
  refine lv_topi (fun v_10 ev_10 => ?_)
  refine lv_aload_n hx hb dL_law_591 rfl (lv_at hl 0 rfl) ?_
  refine lv_iload hx hb dL_law_592 (lv_at hl 4 rfl) ?_
  refine lv_iconst (v := 3) hx hb dL_law_594 (by decide) ?_
  refine lv_iadd hx hb dL_law_595 ?_
  refine my_ti (y := 3) (by decide) ?_
  refine va_sld hx hb hX hbl hbA hS (by rw [hL7]; unfold vp_in; decide) dL_law_596 ?_
  refine lv_topi (fun v_11 ev_11 => ?_)
  refine lv_aload_n hx hb dL_law_597 rfl (lv_at hl 0 rfl) ?_
  refine lv_iload hx hb dL_law_598 (lv_at hl 4 rfl) ?_
  refine lv_iconst (v := 4) hx hb dL_law_600 (by decide) ?_
  refine lv_iadd hx hb dL_law_601 ?_
  refine my_ti (y := 4) (by decide) ?_
  refine va_sld hx hb hX hbl hbA hS (by rw [hL7]; unfold vp_in; decide) dL_law_602 ?_
  refine lv_topi (fun v_12 ev_12 => ?_)
  refine lv_aload_n hx hb dL_law_603 rfl (lv_at hl 0 rfl) ?_
  refine lv_iload hx hb dL_law_604 (lv_at hl 4 rfl) ?_
  refine lv_iconst (v := 5) hx hb dL_law_606 (by decide) ?_
  refine lv_iadd hx hb dL_law_607 ?_
  refine my_ti (y := 5) (by decide) ?_
  refine va_sld hx hb hX hbl hbA hS (by rw [hL7]; unfold vp_in; decide) dL_law_608 ?_
  refine lv_topi (fun v_13 ev_13 => ?_)
  refine lv_aload_n hx hb dL_law_609 rfl (lv_at hl 0 rfl) ?_
  refine lv_iload hx hb dL_law_610 (lv_at hl 4 rfl) ?_
  refine lv_bipush (v := 6) hx hb dL_law_612 (by decide) ?_
  refine lv_iadd hx hb dL_law_614 ?_
  refine my_ti (y := 6) (by decide) ?_
  refine va_sld hx hb hX hbl hbA hS (by rw [hL7]; unfold vp_in; decide) dL_law_615 ?_
  refine lv_topi (fun v_14 ev_14 => ?_)
  have hPc := hP.sub (ws' := [(yM, .inr (12, [.int 0, .ref yT, .int 0, .int 0, .ref yF, vq5, .int 0, .int 0, .int 0, vq9, vq10, vq11, vq12, vq13, vq14, vq15, vq16, vq17, vq18, .ref yC, vq20, vq21, vq22, vq23, vq24, vq25, vq26, vq27, vq28, vq29, vq30, vq31, .int 0, .int 0, .int 0, .int 0, .int 0, .int 0, .int 0, .int 0, .int 0, .int 0, .int 0, .int 0, .int 0, .int 0, .long 0, .ref yL, .ref yD, .ref yB, vq50, vq51, vq52, vq53, vq54, vq55, vq56, vq57, .int 0, .int 0, .int 0, .int 0, .int 0, .int 0, vq64, vq65, .int (-1), .int (-1), vq68, vq69, vq70, vq71, vq72, vq73, vq74, vq75, vq76, vq77, vq78, vq79, vq80, vq81, vq82, vq83, .int 0, .int 0, .int (-1), .int 0, vq88, .int 0, vq90, vq91, vq92, vq93, vq94, .int 0]))]) [0] rfl
  have hDc := hD.sub (ws' := [(yM, .inr (12, [.int 0, .ref yT, .int 0, .int 0, .ref yF, vq5, .int 0, .int 0, .int 0, vq9, vq10, vq11, vq12, vq13, vq14, vq15, vq16, vq17, vq18, .ref yC, vq20, vq21, vq22, vq23, vq24, vq25, vq26, vq27, vq28, vq29, vq30, vq31, .int 0, .int 0, .int 0, .int 0, .int 0, .int 0, .int 0, .int 0, .int 0, .int 0, .int 0, .int 0, .int 0, .int 0, .long 0, .ref yL, .ref yD, .ref yB, vq50, vq51, vq52, vq53, vq54, vq55, vq56, vq57, .int 0, .int 0, .int 0, .int 0, .int 0, .int 0, vq64, vq65, .int (-1), .int (-1), vq68, vq69, vq70, vq71, vq72, vq73, vq74, vq75, vq76, vq77, vq78, vq79, vq80, vq81, vq82, vq83, .int 0, .int 0, .int (-1), .int 0, vq88, .int 0, vq90, vq91, vq92, vq93, vq94, .int 0]))]) [0] (by decide) rfl
  have hKc := hK.sub (tys' := []) [] rfl
  have hFc := va_free (wc := [(yM, .inr (12, [.int 0, .ref yT, .int 0, .int 0, .ref yF, vq5, .int 0, .int 0, .int 0, vq9, vq10, vq11, vq12, vq13, vq14, vq15, vq16, vq17, vq18, .ref yC, vq20, vq21, vq22, vq23, vq24, vq25, vq26, vq27, vq28, vq29, vq30, vq31, .int 0, .int 0, .int 0, .int 0, .int 0, .int 0, .int 0, .int 0, .int 0, .int 0, .int 0, .int 0, .int 0, .int 0, .long 0, .ref yL, .ref yD, .ref yB, vq50, vq51, vq52, vq53, vq54, vq55, vq56, vq57, .int 0, .int 0, .int 0, .int 0, .int 0, .int 0, vq64, vq65, .int (-1), .int (-1), vq68, vq69, vq70, vq71, vq72, vq73, vq74, vq75, vq76, vq77, vq78, vq79, vq80, vq81, vq82, vq83, .int 0, .int 0, .int (-1), .int 0, vq88, .int 0, vq90, vq91, vq92, vq93, vq94, .int 0]))]) hD hS hA [0] rfl
  refine va_calli (va_runV (As := [.int v_9, .int v_10, .int v_11, .int v_12, .int v_13, .int v_14]) (rest := [.int (-1)]) ⟨hx, hb, hml, hown, hts⟩ (m_trip l dC dI H.size v_9 v_10 v_11 v_12 v_13 v_14 yM yT yF (vq5 : Value) (vq9 : Value) (vq10 : Value) (vq11 : Value) (vq12 : Value) (vq13 : Value) (vq14 : Value) (vq15 : Value) (vq16 : Value) (vq17 : Value) (vq18 : Value) yC (vq20 : Value) (vq21 : Value) (vq22 : Value) (vq23 : Value) (vq24 : Value) (vq25 : Value) (vq26 : Value) (vq27 : Value) (vq28 : Value) (vq29 : Value) (vq30 : Value) (vq31 : Value) yL yD yB (vq50 : Value) (vq51 : Value) (vq52 : Value) (vq53 : Value) (vq54 : Value) (vq55 : Value) (vq56 : Value) (vq57 : Value) (vq64 : Value) (vq65 : Value) (vq68 : Value) (vq69 : Value) (vq70 : Value) (vq71 : Value) (vq72 : Value) (vq73 : Value) (vq74 : Value) (vq75 : Value) (vq76 : Value) (vq77 : Value) (vq78 : Value) (vq79 : Value) (vq80 : Value) (vq81 : Value) (vq82 : Value) (vq83 : Value) (vq88 : Value) (vq90 : Value) (vq91 : Value) (vq92 : Value) (vq93 : Value) (vq94 : Value)) (cwV 6 hts (gV kw_8_45 kw_8_46 kw_8_47 kw_1_15 kw_8_48) rfl rfl rfl (by decide +kernel) ⟨Nat.le_of_ble_eq_true rfl, Nat.le_of_ble_eq_true rfl⟩) ⟨fun a U g mk q => by obtain ⟨q0, q1, qP, qK, qD⟩ := q; exact ⟨q0, q1, qP, va_K.moved (u := U) (U := U.calling g mk a) (Vm.Alike.refl U.vm) qK, qD⟩, va_recv hKc hPc (ci := 12) (q0 := 0) rfl rfl, fun U hU hW => ⟨rfl, by rw [hU], by rw [hU]; exact hPc, va_K.moved hW.alike hKc, hDc.weaken (fun _ _ _ _ => trivial)⟩⟩ rfl rfl hl.1 rfl (lv_room (Nat.le_of_ble_eq_true rfl)) dL_law_616 ⟨Nat.le_of_ble_eq_true rfl, Nat.le_of_ble_eq_true rfl⟩) hS (fun q _ h => hFc q h) hFc (fun r_15 u t H1 locs ht hvm hw hB hz1 hk1 hS => ?_)
  obtain ⟨hP, hD⟩ := va_join (wr := []) (w1 := []) hP hD [0] [] rfl rfl (by decide) (by decide) hk1 hFc (fun k q h => by simp at h) ⟨fun i j p q h => by simp at h, fun k q h => by simp at h⟩
  have hK := hK.sub (tys' := []) [] rfl
  generalize H1 = H at hP hS ⊢
  have hP : va_P (dC, dI) vwCl [] H := hP
  have hD : va_D A [] := hD
  have hK : va_K (dC, dI) vwCl [] s := hK
  subst hw
  refine lv_icmp_eq (tgt := 1042) hx hb dL_law_619 (by decide) (fun c_17 => ?_) (fun c_17 => ?_)
  rotate_left
  · exact (c_17 (by decide)).elim
  refine lv_iinc (v := 7) (lv' := [(4, .int 7), (0, .ref b), (1, .ref xX), (2, .ref yM), (3, .ref yO)]) hx hb dL_law_1042 hl (k := 4) rfl (by decide) (by decide) rfl (fun ls hl => ?_)
  refine lv_goto (tgt := 23) hx hb dL_law_1045 (by decide) ?_
  refine lv_iload hx hb dL_law_23 (lv_at hl 0 rfl) ?_
  refine lv_aload_n hx hb dL_law_25 rfl (lv_at hl 1 rfl) ?_
  refine va_slen hx hb hX hbl hbA hS dL_law_26 ?_
  refine my_ti (y := 7) (by rw [hL7]; rfl) ?_
  refine lv_bipush (v := 7) hx hb dL_law_27 (by decide) ?_
  refine lv_isub hx hb dL_law_29 ?_
  refine my_ti (y := 0) (by decide) ?_
  refine lv_icmp_gt (tgt := 1048) hx hb dL_law_30 (by decide) (fun c_18 => ?_) (fun c_18 => ?_)
  rotate_left
  · exact (c_18 (by decide)).elim
  refine lv_iconst (v := 1) hx hb dL_law_1048 (by decide) ?_
  refine va_forget (fun q hq => by have h9 := hS.2.2 q hq; rw [hAe] at h9; exact h9) ?_
  refine W.widen (k := 600002) (n := 7302232) (Nat.le_of_ble_eq_true rfl) (Nat.le_of_ble_eq_true rfl) ?_
  exact lw_ret hx hb hr hlocks dL_law_1049
set_option maxHeartbeats 4000000 in
set_option maxRecDepth 100000 in
theorem law_10 {p : Program} {e : Env} {s : State} {m : MethodId} {below : List Frame} {meth : Method} {c : Code} (l : Launch) {b L : Nat} {xs : Nat → Int32} (hL7 : L = 7) (C0 : lw_At p s m meth c b L xs) (dC : Nat → ClassId) (dI : Nat → Nat → Nat) (A : Nat → Prop) (hAe : A = fun q => s.heap.size ≤ q) (yO : Nat) (xX : Nat) (xT : Nat) (xW : Nat) (xR : Nat) (xM : Nat) (xS : Nat) (yM : Nat) (yT : Nat) (yF : Nat) (vq5 : Value) (vq9 : Value) (vq10 : Value) (vq11 : Value) (vq12 : Value) (vq13 : Value) (vq14 : Value) (vq15 : Value) (vq16 : Value) (vq17 : Value) (vq18 : Value) (yC : Nat) (vq20 : Value) (vq21 : Value) (vq22 : Value) (vq23 : Value) (vq24 : Value) (vq25 : Value) (vq26 : Value) (vq27 : Value) (vq28 : Value) (vq29 : Value) (vq30 : Value) (vq31 : Value) (yL : Nat) (yD : Nat) (yB : Nat) (vq50 : Value) (vq51 : Value) (vq52 : Value) (vq53 : Value) (vq54 : Value) (vq55 : Value) (vq56 : Value) (vq57 : Value) (vq64 : Value) (vq65 : Value) (vq68 : Value) (vq69 : Value) (vq70 : Value) (vq71 : Value) (vq72 : Value) (vq73 : Value) (vq74 : Value) (vq75 : Value) (vq76 : Value) (vq77 : Value) (vq78 : Value) (vq79 : Value) (vq80 : Value) (vq81 : Value) (vq82 : Value) (vq83 : Value) (vq88 : Value) (vq90 : Value) (vq91 : Value) (vq92 : Value) (vq93 : Value) (vq94 : Value) (H : Heap) (locs : List Loc) (hK : va_K (dC, dI) vwCl [] s) (hP : va_P (dC, dI) vwCl [(xX, .inr (11, [.ref xT, .int 0, .ref xW, .ref xR, .ref xM, .ref xS, .int (-1), .int 0, .int (-1)])), (yM, .inr (12, [.int 0, .ref yT, .int 0, .int 0, .ref yF, vq5, .int 0, .int 0, .int 0, vq9, vq10, vq11, vq12, vq13, vq14, vq15, vq16, vq17, vq18, .ref yC, vq20, vq21, vq22, vq23, vq24, vq25, vq26, vq27, vq28, vq29, vq30, vq31, .int 0, .int 0, .int 0, .int 0, .int 0, .int 0, .int 0, .int 0, .int 0, .int 0, .int 0, .int 0, .int 0, .int 0, .long 0, .ref yL, .ref yD, .ref yB, vq50, vq51, vq52, vq53, vq54, vq55, vq56, vq57, .int 0, .int 0, .int 0, .int 0, .int 0, .int 0, vq64, vq65, .int (-1), .int (-1), vq68, vq69, vq70, vq71, vq72, vq73, vq74, vq75, vq76, vq77, vq78, vq79, vq80, vq81, vq82, vq83, .int 0, .int 0, .int (-1), .int 0, vq88, .int 0, vq90, vq91, vq92, vq93, vq94, .int 0]))] H) (hD : va_D A [(xX, .inr (11, [.ref xT, .int 0, .ref xW, .ref xR, .ref xM, .ref xS, .int (-1), .int 0, .int (-1)])), (yM, .inr (12, [.int 0, .ref yT, .int 0, .int 0, .ref yF, vq5, .int 0, .int 0, .int 0, vq9, vq10, vq11, vq12, vq13, vq14, vq15, vq16, vq17, vq18, .ref yC, vq20, vq21, vq22, vq23, vq24, vq25, vq26, vq27, vq28, vq29, vq30, vq31, .int 0, .int 0, .int 0, .int 0, .int 0, .int 0, .int 0, .int 0, .int 0, .int 0, .int 0, .int 0, .int 0, .int 0, .long 0, .ref yL, .ref yD, .ref yB, vq50, vq51, vq52, vq53, vq54, vq55, vq56, vq57, .int 0, .int 0, .int 0, .int 0, .int 0, .int 0, vq64, vq65, .int (-1), .int (-1), vq68, vq69, vq70, vq71, vq72, vq73, vq74, vq75, vq76, vq77, vq78, vq79, vq80, vq81, vq82, vq83, .int 0, .int 0, .int (-1), .int 0, vq88, .int 0, vq90, vq91, vq92, vq93, vq94, .int 0]))]) (hS : va_S A s.heap H locs) (ls : Array Slot) (hl : lv_has ls 7 [(0, .ref b), (1, .ref xX), (2, .ref yM), (3, .ref yO), (4, .int 0)]) : W p l e room_1 s m #[Value.ref b] below meth c H locs 156 13846 (lw_Z below #[Value.ref b] s) (F0 m 624 ls []) := by
  obtain ⟨hx, hb, hr, hml, hown, hts0, hX, hbl, hlocks, hgv⟩ := id C0
  have hb : c.code = cL_law := hb
  have hown : s.vm.findClass RL = some m.cls := hown
  have hts : ∀ w ∈ (.initialized RL :: lw_good : List Cond), w.before #[Value.ref b] s = true := fun w h => (List.mem_cons.mp h).elim (fun q => by rw [q]; exact hts0 _ (lwgT kw_1_0)) (fun q => hts0 w (lwgT q))
  have hA : ∀ q : Nat, s.heap.size ≤ q → A q := fun q h => by rw [hAe]; exact h
  have hbA : ¬ A b := by rw [hAe]; exact Nat.not_le.mpr hbl
  refine lv_aload_n hx hb dL_law_624 rfl (lv_at hl 1 rfl) ?_
  have hPc := hP.sub (ws' := [(xX, .inr (11, [.ref xT, .int 0, .ref xW, .ref xR, .ref xM, .ref xS, .int (-1), .int 0, .int (-1)]))]) [0] rfl
  have hDc := hD.sub (ws' := [(xX, .inr (11, [.ref xT, .int 0, .ref xW, .ref xR, .ref xM, .ref xS, .int (-1), .int 0, .int (-1)]))]) [0] (by decide) rfl
  have hKc := hK.sub (tys' := []) [] rfl
  have hFc := va_free (wc := [(xX, .inr (11, [.ref xT, .int 0, .ref xW, .ref xR, .ref xM, .ref xS, .int (-1), .int 0, .int (-1)]))]) hD hS hA [0] rfl
  refine va_calli (va_runV (As := []) (rest := []) ⟨hx, hb, hml, hown, hts⟩ (x_rain l dC dI H.size xX xT xW xR xM xS) (cwV 0 hts (gV kw_3_218 kw_3_219 kw_3_220 kw_1_1 kw_3_221) rfl rfl rfl (by decide +kernel) ⟨Nat.le_of_ble_eq_true rfl, Nat.le_of_ble_eq_true rfl⟩) ⟨fun a U g mk q => by obtain ⟨q0, q1, qP, qK, qD⟩ := q; exact ⟨q0, q1, qP, va_K.moved (u := U) (U := U.calling g mk a) (Vm.Alike.refl U.vm) qK, qD⟩, va_recv hKc hPc (ci := 11) (q0 := 0) rfl rfl, fun U hU hW => ⟨rfl, by rw [hU], by rw [hU]; exact hPc, va_K.moved hW.alike hKc, hDc.weaken (fun _ _ _ _ => trivial)⟩⟩ rfl rfl hl.1 rfl (lv_room (Nat.le_of_ble_eq_true rfl)) dL_law_625 ⟨Nat.le_of_ble_eq_true rfl, Nat.le_of_ble_eq_true rfl⟩) hS (fun q _ h => hFc q h) hFc (fun r_1 u t H1 locs ht hvm hw hB hz1 hk1 hS => ?_)
  obtain ⟨hP, hD⟩ := va_join (wr := [(yM, .inr (12, [.int 0, .ref yT, .int 0, .int 0, .ref yF, vq5, .int 0, .int 0, .int 0, vq9, vq10, vq11, vq12, vq13, vq14, vq15, vq16, vq17, vq18, .ref yC, vq20, vq21, vq22, vq23, vq24, vq25, vq26, vq27, vq28, vq29, vq30, vq31, .int 0, .int 0, .int 0, .int 0, .int 0, .int 0, .int 0, .int 0, .int 0, .int 0, .int 0, .int 0, .int 0, .int 0, .long 0, .ref yL, .ref yD, .ref yB, vq50, vq51, vq52, vq53, vq54, vq55, vq56, vq57, .int 0, .int 0, .int 0, .int 0, .int 0, .int 0, vq64, vq65, .int (-1), .int (-1), vq68, vq69, vq70, vq71, vq72, vq73, vq74, vq75, vq76, vq77, vq78, vq79, vq80, vq81, vq82, vq83, .int 0, .int 0, .int (-1), .int 0, vq88, .int 0, vq90, vq91, vq92, vq93, vq94, .int 0]))]) (w1 := []) hP hD [0] [1] rfl rfl (by decide) (by decide) hk1 hFc (fun k q h => by simp at h) ⟨fun i j p q h => by simp at h, fun k q h => by simp at h⟩
  have hK := hK.sub (tys' := []) [] rfl
  generalize H1 = H at hP hS ⊢
  have hP : va_P (dC, dI) vwCl [(yM, .inr (12, [.int 0, .ref yT, .int 0, .int 0, .ref yF, vq5, .int 0, .int 0, .int 0, vq9, vq10, vq11, vq12, vq13, vq14, vq15, vq16, vq17, vq18, .ref yC, vq20, vq21, vq22, vq23, vq24, vq25, vq26, vq27, vq28, vq29, vq30, vq31, .int 0, .int 0, .int 0, .int 0, .int 0, .int 0, .int 0, .int 0, .int 0, .int 0, .int 0, .int 0, .int 0, .int 0, .long 0, .ref yL, .ref yD, .ref yB, vq50, vq51, vq52, vq53, vq54, vq55, vq56, vq57, .int 0, .int 0, .int 0, .int 0, .int 0, .int 0, vq64, vq65, .int (-1), .int (-1), vq68, vq69, vq70, vq71, vq72, vq73, vq74, vq75, vq76, vq77, vq78, vq79, vq80, vq81, vq82, vq83, .int 0, .int 0, .int (-1), .int 0, vq88, .int 0, vq90, vq91, vq92, vq93, vq94, .int 0]))] H := hP
  have hD : va_D A [(yM, .inr (12, [.int 0, .ref yT, .int 0, .int 0, .ref yF, vq5, .int 0, .int 0, .int 0, vq9, vq10, vq11, vq12, vq13, vq14, vq15, vq16, vq17, vq18, .ref yC, vq20, vq21, vq22, vq23, vq24, vq25, vq26, vq27, vq28, vq29, vq30, vq31, .int 0, .int 0, .int 0, .int 0, .int 0, .int 0, .int 0, .int 0, .int 0, .int 0, .int 0, .int 0, .int 0, .int 0, .long 0, .ref yL, .ref yD, .ref yB, vq50, vq51, vq52, vq53, vq54, vq55, vq56, vq57, .int 0, .int 0, .int 0, .int 0, .int 0, .int 0, vq64, vq65, .int (-1), .int (-1), vq68, vq69, vq70, vq71, vq72, vq73, vq74, vq75, vq76, vq77, vq78, vq79, vq80, vq81, vq82, vq83, .int 0, .int 0, .int (-1), .int 0, vq88, .int 0, vq90, vq91, vq92, vq93, vq94, .int 0]))] := hD
  have hK : va_K (dC, dI) vwCl [] s := hK
  subst hw
  refine lv_aload_n hx hb dL_law_628 rfl (lv_at hl 2 rfl) ?_
  have hPc := hP.sub (ws' := [(yM, .inr (12, [.int 0, .ref yT, .int 0, .int 0, .ref yF, vq5, .int 0, .int 0, .int 0, vq9, vq10, vq11, vq12, vq13, vq14, vq15, vq16, vq17, vq18, .ref yC, vq20, vq21, vq22, vq23, vq24, vq25, vq26, vq27, vq28, vq29, vq30, vq31, .int 0, .int 0, .int 0, .int 0, .int 0, .int 0, .int 0, .int 0, .int 0, .int 0, .int 0, .int 0, .int 0, .int 0, .long 0, .ref yL, .ref yD, .ref yB, vq50, vq51, vq52, vq53, vq54, vq55, vq56, vq57, .int 0, .int 0, .int 0, .int 0, .int 0, .int 0, vq64, vq65, .int (-1), .int (-1), vq68, vq69, vq70, vq71, vq72, vq73, vq74, vq75, vq76, vq77, vq78, vq79, vq80, vq81, vq82, vq83, .int 0, .int 0, .int (-1), .int 0, vq88, .int 0, vq90, vq91, vq92, vq93, vq94, .int 0]))]) [0] rfl
  have hDc := hD.sub (ws' := [(yM, .inr (12, [.int 0, .ref yT, .int 0, .int 0, .ref yF, vq5, .int 0, .int 0, .int 0, vq9, vq10, vq11, vq12, vq13, vq14, vq15, vq16, vq17, vq18, .ref yC, vq20, vq21, vq22, vq23, vq24, vq25, vq26, vq27, vq28, vq29, vq30, vq31, .int 0, .int 0, .int 0, .int 0, .int 0, .int 0, .int 0, .int 0, .int 0, .int 0, .int 0, .int 0, .int 0, .int 0, .long 0, .ref yL, .ref yD, .ref yB, vq50, vq51, vq52, vq53, vq54, vq55, vq56, vq57, .int 0, .int 0, .int 0, .int 0, .int 0, .int 0, vq64, vq65, .int (-1), .int (-1), vq68, vq69, vq70, vq71, vq72, vq73, vq74, vq75, vq76, vq77, vq78, vq79, vq80, vq81, vq82, vq83, .int 0, .int 0, .int (-1), .int 0, vq88, .int 0, vq90, vq91, vq92, vq93, vq94, .int 0]))]) [0] (by decide) rfl
  have hKc := hK.sub (tys' := []) [] rfl
  have hFc := va_free (wc := [(yM, .inr (12, [.int 0, .ref yT, .int 0, .int 0, .ref yF, vq5, .int 0, .int 0, .int 0, vq9, vq10, vq11, vq12, vq13, vq14, vq15, vq16, vq17, vq18, .ref yC, vq20, vq21, vq22, vq23, vq24, vq25, vq26, vq27, vq28, vq29, vq30, vq31, .int 0, .int 0, .int 0, .int 0, .int 0, .int 0, .int 0, .int 0, .int 0, .int 0, .int 0, .int 0, .int 0, .int 0, .long 0, .ref yL, .ref yD, .ref yB, vq50, vq51, vq52, vq53, vq54, vq55, vq56, vq57, .int 0, .int 0, .int 0, .int 0, .int 0, .int 0, vq64, vq65, .int (-1), .int (-1), vq68, vq69, vq70, vq71, vq72, vq73, vq74, vq75, vq76, vq77, vq78, vq79, vq80, vq81, vq82, vq83, .int 0, .int 0, .int (-1), .int 0, vq88, .int 0, vq90, vq91, vq92, vq93, vq94, .int 0]))]) hD hS hA [0] rfl
  refine va_calli (va_runV (As := []) (rest := [.int 0]) ⟨hx, hb, hml, hown, hts⟩ (m_rain l dC dI H.size yM yT yF (vq5 : Value) (vq9 : Value) (vq10 : Value) (vq11 : Value) (vq12 : Value) (vq13 : Value) (vq14 : Value) (vq15 : Value) (vq16 : Value) (vq17 : Value) (vq18 : Value) yC (vq20 : Value) (vq21 : Value) (vq22 : Value) (vq23 : Value) (vq24 : Value) (vq25 : Value) (vq26 : Value) (vq27 : Value) (vq28 : Value) (vq29 : Value) (vq30 : Value) (vq31 : Value) yL yD yB (vq50 : Value) (vq51 : Value) (vq52 : Value) (vq53 : Value) (vq54 : Value) (vq55 : Value) (vq56 : Value) (vq57 : Value) (vq64 : Value) (vq65 : Value) (vq68 : Value) (vq69 : Value) (vq70 : Value) (vq71 : Value) (vq72 : Value) (vq73 : Value) (vq74 : Value) (vq75 : Value) (vq76 : Value) (vq77 : Value) (vq78 : Value) (vq79 : Value) (vq80 : Value) (vq81 : Value) (vq82 : Value) (vq83 : Value) (vq88 : Value) (vq90 : Value) (vq91 : Value) (vq92 : Value) (vq93 : Value) (vq94 : Value)) (cwV 0 hts (gV kw_8_2 kw_8_3 kw_8_4 kw_1_15 kw_8_5) rfl rfl rfl (by decide +kernel) ⟨Nat.le_of_ble_eq_true rfl, Nat.le_of_ble_eq_true rfl⟩) ⟨fun a U g mk q => by obtain ⟨q0, q1, qP, qK, qD⟩ := q; exact ⟨q0, q1, qP, va_K.moved (u := U) (U := U.calling g mk a) (Vm.Alike.refl U.vm) qK, qD⟩, va_recv hKc hPc (ci := 12) (q0 := 0) rfl rfl, fun U hU hW => ⟨rfl, by rw [hU], by rw [hU]; exact hPc, va_K.moved hW.alike hKc, hDc.weaken (fun _ _ _ _ => trivial)⟩⟩ rfl rfl hl.1 rfl (lv_room (Nat.le_of_ble_eq_true rfl)) dL_law_629 ⟨Nat.le_of_ble_eq_true rfl, Nat.le_of_ble_eq_true rfl⟩) hS (fun q _ h => hFc q h) hFc (fun r_3 u t H1 locs ht hvm hw hB hz1 hk1 hS => ?_)
  obtain ⟨hP, hD⟩ := va_join (wr := []) (w1 := []) hP hD [0] [] rfl rfl (by decide) (by decide) hk1 hFc (fun k q h => by simp at h) ⟨fun i j p q h => by simp at h, fun k q h => by simp at h⟩
  have hK := hK.sub (tys' := []) [] rfl
  generalize H1 = H at hP hS ⊢
  have hP : va_P (dC, dI) vwCl [] H := hP
  have hD : va_D A [] := hD
  have hK : va_K (dC, dI) vwCl [] s := hK
  subst hw
  refine lv_icmp_eq (tgt := 1042) hx hb dL_law_632 (by decide) (fun c_5 => ?_) (fun c_5 => ?_)
  rotate_left
  · exact (c_5 (by decide)).elim
  refine lv_iinc (v := 7) (lv' := [(4, .int 7), (0, .ref b), (1, .ref xX), (2, .ref yM), (3, .ref yO)]) hx hb dL_law_1042 hl (k := 4) rfl (by decide) (by decide) rfl (fun ls hl => ?_)
  refine lv_goto (tgt := 23) hx hb dL_law_1045 (by decide) ?_
  refine lv_iload hx hb dL_law_23 (lv_at hl 0 rfl) ?_
  refine lv_aload_n hx hb dL_law_25 rfl (lv_at hl 1 rfl) ?_
  refine va_slen hx hb hX hbl hbA hS dL_law_26 ?_
  refine my_ti (y := 7) (by rw [hL7]; rfl) ?_
  refine lv_bipush (v := 7) hx hb dL_law_27 (by decide) ?_
  refine lv_isub hx hb dL_law_29 ?_
  refine my_ti (y := 0) (by decide) ?_
  refine lv_icmp_gt (tgt := 1048) hx hb dL_law_30 (by decide) (fun c_6 => ?_) (fun c_6 => ?_)
  rotate_left
  · exact (c_6 (by decide)).elim
  refine lv_iconst (v := 1) hx hb dL_law_1048 (by decide) ?_
  refine va_forget (fun q hq => by have h9 := hS.2.2 q hq; rw [hAe] at h9; exact h9) ?_
  refine W.widen (k := 600002) (n := 7302232) (Nat.le_of_ble_eq_true rfl) (Nat.le_of_ble_eq_true rfl) ?_
  exact lw_ret hx hb hr hlocks dL_law_1049
set_option maxHeartbeats 4000000 in
set_option maxRecDepth 100000 in
theorem law_11 {p : Program} {e : Env} {s : State} {m : MethodId} {below : List Frame} {meth : Method} {c : Code} (l : Launch) {b L : Nat} {xs : Nat → Int32} (hL7 : L = 7) (C0 : lw_At p s m meth c b L xs) (dC : Nat → ClassId) (dI : Nat → Nat → Nat) (A : Nat → Prop) (hAe : A = fun q => s.heap.size ≤ q) (yO : Nat) (xX : Nat) (xT : Nat) (xW : Nat) (xR : Nat) (xM : Nat) (xS : Nat) (xRo : Nat) (xPe : Nat) (xWh : Nat) (xTr : Nat) (xCo : Nat) (xAl : Nat) (xNl : Nat) (xDr : Nat) (xFa : Nat) (yM : Nat) (yT : Nat) (yF : Nat) (vq5 : Value) (vq9 : Value) (vq10 : Value) (vq11 : Value) (vq12 : Value) (vq13 : Value) (vq14 : Value) (vq15 : Value) (vq16 : Value) (vq17 : Value) (vq18 : Value) (yC : Nat) (vq20 : Value) (vq21 : Value) (vq22 : Value) (vq23 : Value) (vq24 : Value) (vq25 : Value) (vq26 : Value) (vq27 : Value) (vq28 : Value) (vq29 : Value) (vq30 : Value) (vq31 : Value) (yL : Nat) (yD : Nat) (yB : Nat) (vq50 : Value) (vq51 : Value) (vq52 : Value) (vq53 : Value) (vq54 : Value) (vq55 : Value) (vq56 : Value) (vq57 : Value) (vq64 : Value) (vq65 : Value) (vq68 : Value) (vq69 : Value) (vq70 : Value) (vq71 : Value) (vq72 : Value) (vq73 : Value) (vq74 : Value) (vq75 : Value) (vq76 : Value) (vq77 : Value) (vq78 : Value) (vq79 : Value) (vq80 : Value) (vq81 : Value) (vq82 : Value) (vq83 : Value) (vq88 : Value) (vq90 : Value) (vq91 : Value) (vq92 : Value) (vq93 : Value) (vq94 : Value) (H : Heap) (locs : List Loc) (hK : va_K (dC, dI) vwCl [] s) (hP : va_P (dC, dI) vwCl [(xX, .inr (11, [.ref xT, .int 0, .ref xW, .ref xR, .ref xM, .ref xS, .int (-1), .int 0, .int (-1)])), (xW, .inr (7, [.ref xRo, .ref xPe, .ref xWh, .ref xTr, .ref xCo, .int 0, .ref xAl, .ref xNl, .ref xDr, .int 0, .ref xFa, .int 0, .int 0, .int 0])), (yM, .inr (12, [.int 0, .ref yT, .int 0, .int 0, .ref yF, vq5, .int 0, .int 0, .int 0, vq9, vq10, vq11, vq12, vq13, vq14, vq15, vq16, vq17, vq18, .ref yC, vq20, vq21, vq22, vq23, vq24, vq25, vq26, vq27, vq28, vq29, vq30, vq31, .int 0, .int 0, .int 0, .int 0, .int 0, .int 0, .int 0, .int 0, .int 0, .int 0, .int 0, .int 0, .int 0, .int 0, .long 0, .ref yL, .ref yD, .ref yB, vq50, vq51, vq52, vq53, vq54, vq55, vq56, vq57, .int 0, .int 0, .int 0, .int 0, .int 0, .int 0, vq64, vq65, .int (-1), .int (-1), vq68, vq69, vq70, vq71, vq72, vq73, vq74, vq75, vq76, vq77, vq78, vq79, vq80, vq81, vq82, vq83, .int 0, .int 0, .int (-1), .int 0, vq88, .int 0, vq90, vq91, vq92, vq93, vq94, .int 0]))] H) (hD : va_D A [(xX, .inr (11, [.ref xT, .int 0, .ref xW, .ref xR, .ref xM, .ref xS, .int (-1), .int 0, .int (-1)])), (xW, .inr (7, [.ref xRo, .ref xPe, .ref xWh, .ref xTr, .ref xCo, .int 0, .ref xAl, .ref xNl, .ref xDr, .int 0, .ref xFa, .int 0, .int 0, .int 0])), (yM, .inr (12, [.int 0, .ref yT, .int 0, .int 0, .ref yF, vq5, .int 0, .int 0, .int 0, vq9, vq10, vq11, vq12, vq13, vq14, vq15, vq16, vq17, vq18, .ref yC, vq20, vq21, vq22, vq23, vq24, vq25, vq26, vq27, vq28, vq29, vq30, vq31, .int 0, .int 0, .int 0, .int 0, .int 0, .int 0, .int 0, .int 0, .int 0, .int 0, .int 0, .int 0, .int 0, .int 0, .long 0, .ref yL, .ref yD, .ref yB, vq50, vq51, vq52, vq53, vq54, vq55, vq56, vq57, .int 0, .int 0, .int 0, .int 0, .int 0, .int 0, vq64, vq65, .int (-1), .int (-1), vq68, vq69, vq70, vq71, vq72, vq73, vq74, vq75, vq76, vq77, vq78, vq79, vq80, vq81, vq82, vq83, .int 0, .int 0, .int (-1), .int 0, vq88, .int 0, vq90, vq91, vq92, vq93, vq94, .int 0]))]) (hS : va_S A s.heap H locs) (ls : Array Slot) (hl : lv_has ls 7 [(0, .ref b), (1, .ref xX), (2, .ref yM), (3, .ref yO), (4, .int 0)]) : W p l e room_1 s m #[Value.ref b] below meth c H locs 156 13846 (lw_Z below #[Value.ref b] s) (F0 m 637 ls []) := by
  obtain ⟨hx, hb, hr, hml, hown, hts0, hX, hbl, hlocks, hgv⟩ := id C0
  have hb : c.code = cL_law := hb
  have hown : s.vm.findClass RL = some m.cls := hown
  have hts : ∀ w ∈ (.initialized RL :: lw_good : List Cond), w.before #[Value.ref b] s = true := fun w h => (List.mem_cons.mp h).elim (fun q => by rw [q]; exact hts0 _ (lwgT kw_1_0)) (fun q => hts0 w (lwgT q))
  have hA : ∀ q : Nat, s.heap.size ≤ q → A q := fun q h => by rw [hAe]; exact h
  have hbA : ¬ A b := by rw [hAe]; exact Nat.not_le.mpr hbl
  refine lv_aload_n hx hb dL_law_637 rfl (lv_at hl 1 rfl) ?_
  refine lv_aload_n hx hb dL_law_638 rfl (lv_at hl 0 rfl) ?_
  refine lv_iload hx hb dL_law_639 (lv_at hl 4 rfl) ?_
  refine lv_iconst (v := 1) hx hb dL_law_641 (by decide) ?_
  refine lv_iadd hx hb dL_law_642 ?_
  refine my_ti (y := 1) (by decide) ?_
  refine va_sld hx hb hX hbl hbA hS (by rw [hL7]; unfold vp_in; decide) dL_law_643 ?_
  refine lv_topi (fun v_1 ev_1 => ?_)
  have hPc := hP.sub (ws' := [(xX, .inr (11, [.ref xT, .int 0, .ref xW, .ref xR, .ref xM, .ref xS, .int (-1), .int 0, .int (-1)])), (xW, .inr (7, [.ref xRo, .ref xPe, .ref xWh, .ref xTr, .ref xCo, .int 0, .ref xAl, .ref xNl, .ref xDr, .int 0, .ref xFa, .int 0, .int 0, .int 0]))]) [0, 1] rfl
  have hDc := hD.sub (ws' := [(xX, .inr (11, [.ref xT, .int 0, .ref xW, .ref xR, .ref xM, .ref xS, .int (-1), .int 0, .int (-1)])), (xW, .inr (7, [.ref xRo, .ref xPe, .ref xWh, .ref xTr, .ref xCo, .int 0, .ref xAl, .ref xNl, .ref xDr, .int 0, .ref xFa, .int 0, .int 0, .int 0]))]) [0, 1] (by decide) rfl
  have hKc := hK.sub (tys' := []) [] rfl
  have hFc := va_free (wc := [(xX, .inr (11, [.ref xT, .int 0, .ref xW, .ref xR, .ref xM, .ref xS, .int (-1), .int 0, .int (-1)])), (xW, .inr (7, [.ref xRo, .ref xPe, .ref xWh, .ref xTr, .ref xCo, .int 0, .ref xAl, .ref xNl, .ref xDr, .int 0, .ref xFa, .int 0, .int 0, .int 0]))]) hD hS hA [0, 1] rfl
  refine va_calli (va_runV (As := [.int v_1]) (rest := []) ⟨hx, hb, hml, hown, hts⟩ (x_wet l dC dI H.size v_1 xX xT xW xR xM xS xRo xPe xWh xTr xCo xAl xNl xDr xFa) (cwV 1 hts (gV kw_3_226 kw_3_227 kw_3_228 kw_1_1 kw_3_229) rfl rfl rfl (by decide +kernel) ⟨Nat.le_of_ble_eq_true rfl, Nat.le_of_ble_eq_true rfl⟩) ⟨fun a U g mk q => by obtain ⟨q0, q1, qP, qK, qD⟩ := q; exact ⟨q0, q1, qP, va_K.moved (u := U) (U := U.calling g mk a) (Vm.Alike.refl U.vm) qK, qD⟩, va_recv hKc hPc (ci := 11) (q0 := 0) rfl rfl, fun U hU hW => ⟨rfl, by rw [hU], by rw [hU]; exact hPc, va_K.moved hW.alike hKc, hDc.weaken (fun _ _ _ _ => trivial)⟩⟩ rfl rfl hl.1 rfl (lv_room (Nat.le_of_ble_eq_true rfl)) dL_law_644 ⟨Nat.le_of_ble_eq_true rfl, Nat.le_of_ble_eq_true rfl⟩) hS (fun q _ h => hFc q h) hFc (fun r_2 u t H1 locs ht hvm hw hB hz1 hk1 hS => ?_)
  obtain ⟨hP, hD⟩ := va_join (wr := [(yM, .inr (12, [.int 0, .ref yT, .int 0, .int 0, .ref yF, vq5, .int 0, .int 0, .int 0, vq9, vq10, vq11, vq12, vq13, vq14, vq15, vq16, vq17, vq18, .ref yC, vq20, vq21, vq22, vq23, vq24, vq25, vq26, vq27, vq28, vq29, vq30, vq31, .int 0, .int 0, .int 0, .int 0, .int 0, .int 0, .int 0, .int 0, .int 0, .int 0, .int 0, .int 0, .int 0, .int 0, .long 0, .ref yL, .ref yD, .ref yB, vq50, vq51, vq52, vq53, vq54, vq55, vq56, vq57, .int 0, .int 0, .int 0, .int 0, .int 0, .int 0, vq64, vq65, .int (-1), .int (-1), vq68, vq69, vq70, vq71, vq72, vq73, vq74, vq75, vq76, vq77, vq78, vq79, vq80, vq81, vq82, vq83, .int 0, .int 0, .int (-1), .int 0, vq88, .int 0, vq90, vq91, vq92, vq93, vq94, .int 0]))]) (w1 := []) hP hD [0, 1] [2] rfl rfl (by decide) (by decide) hk1 hFc (fun k q h => by simp at h) ⟨fun i j p q h => by simp at h, fun k q h => by simp at h⟩
  have hK := hK.sub (tys' := []) [] rfl
  generalize H1 = H at hP hS ⊢
  have hP : va_P (dC, dI) vwCl [(yM, .inr (12, [.int 0, .ref yT, .int 0, .int 0, .ref yF, vq5, .int 0, .int 0, .int 0, vq9, vq10, vq11, vq12, vq13, vq14, vq15, vq16, vq17, vq18, .ref yC, vq20, vq21, vq22, vq23, vq24, vq25, vq26, vq27, vq28, vq29, vq30, vq31, .int 0, .int 0, .int 0, .int 0, .int 0, .int 0, .int 0, .int 0, .int 0, .int 0, .int 0, .int 0, .int 0, .int 0, .long 0, .ref yL, .ref yD, .ref yB, vq50, vq51, vq52, vq53, vq54, vq55, vq56, vq57, .int 0, .int 0, .int 0, .int 0, .int 0, .int 0, vq64, vq65, .int (-1), .int (-1), vq68, vq69, vq70, vq71, vq72, vq73, vq74, vq75, vq76, vq77, vq78, vq79, vq80, vq81, vq82, vq83, .int 0, .int 0, .int (-1), .int 0, vq88, .int 0, vq90, vq91, vq92, vq93, vq94, .int 0]))] H := hP
  have hD : va_D A [(yM, .inr (12, [.int 0, .ref yT, .int 0, .int 0, .ref yF, vq5, .int 0, .int 0, .int 0, vq9, vq10, vq11, vq12, vq13, vq14, vq15, vq16, vq17, vq18, .ref yC, vq20, vq21, vq22, vq23, vq24, vq25, vq26, vq27, vq28, vq29, vq30, vq31, .int 0, .int 0, .int 0, .int 0, .int 0, .int 0, .int 0, .int 0, .int 0, .int 0, .int 0, .int 0, .int 0, .int 0, .long 0, .ref yL, .ref yD, .ref yB, vq50, vq51, vq52, vq53, vq54, vq55, vq56, vq57, .int 0, .int 0, .int 0, .int 0, .int 0, .int 0, vq64, vq65, .int (-1), .int (-1), vq68, vq69, vq70, vq71, vq72, vq73, vq74, vq75, vq76, vq77, vq78, vq79, vq80, vq81, vq82, vq83, .int 0, .int 0, .int (-1), .int 0, vq88, .int 0, vq90, vq91, vq92, vq93, vq94, .int 0]))] := hD
  have hK : va_K (dC, dI) vwCl [] s := hK
  have h_3 := hw
  refine lv_aload_n hx hb dL_law_647 rfl (lv_at hl 2 rfl) ?_
  refine lv_aload_n hx hb dL_law_648 rfl (lv_at hl 0 rfl) ?_
  refine lv_iload hx hb dL_law_649 (lv_at hl 4 rfl) ?_
  refine lv_iconst (v := 1) hx hb dL_law_651 (by decide) ?_
  refine lv_iadd hx hb dL_law_652 ?_
  refine my_ti (y := 1) (by decide) ?_
  refine va_sld hx hb hX hbl hbA hS (by rw [hL7]; unfold vp_in; decide) dL_law_653 ?_
  refine lv_topi (fun v_4 ev_4 => ?_)
  have hPc := hP.sub (ws' := [(yM, .inr (12, [.int 0, .ref yT, .int 0, .int 0, .ref yF, vq5, .int 0, .int 0, .int 0, vq9, vq10, vq11, vq12, vq13, vq14, vq15, vq16, vq17, vq18, .ref yC, vq20, vq21, vq22, vq23, vq24, vq25, vq26, vq27, vq28, vq29, vq30, vq31, .int 0, .int 0, .int 0, .int 0, .int 0, .int 0, .int 0, .int 0, .int 0, .int 0, .int 0, .int 0, .int 0, .int 0, .long 0, .ref yL, .ref yD, .ref yB, vq50, vq51, vq52, vq53, vq54, vq55, vq56, vq57, .int 0, .int 0, .int 0, .int 0, .int 0, .int 0, vq64, vq65, .int (-1), .int (-1), vq68, vq69, vq70, vq71, vq72, vq73, vq74, vq75, vq76, vq77, vq78, vq79, vq80, vq81, vq82, vq83, .int 0, .int 0, .int (-1), .int 0, vq88, .int 0, vq90, vq91, vq92, vq93, vq94, .int 0]))]) [0] rfl
  have hDc := hD.sub (ws' := [(yM, .inr (12, [.int 0, .ref yT, .int 0, .int 0, .ref yF, vq5, .int 0, .int 0, .int 0, vq9, vq10, vq11, vq12, vq13, vq14, vq15, vq16, vq17, vq18, .ref yC, vq20, vq21, vq22, vq23, vq24, vq25, vq26, vq27, vq28, vq29, vq30, vq31, .int 0, .int 0, .int 0, .int 0, .int 0, .int 0, .int 0, .int 0, .int 0, .int 0, .int 0, .int 0, .int 0, .int 0, .long 0, .ref yL, .ref yD, .ref yB, vq50, vq51, vq52, vq53, vq54, vq55, vq56, vq57, .int 0, .int 0, .int 0, .int 0, .int 0, .int 0, vq64, vq65, .int (-1), .int (-1), vq68, vq69, vq70, vq71, vq72, vq73, vq74, vq75, vq76, vq77, vq78, vq79, vq80, vq81, vq82, vq83, .int 0, .int 0, .int (-1), .int 0, vq88, .int 0, vq90, vq91, vq92, vq93, vq94, .int 0]))]) [0] (by decide) rfl
  have hKc := hK.sub (tys' := []) [] rfl
  have hFc := va_free (wc := [(yM, .inr (12, [.int 0, .ref yT, .int 0, .int 0, .ref yF, vq5, .int 0, .int 0, .int 0, vq9, vq10, vq11, vq12, vq13, vq14, vq15, vq16, vq17, vq18, .ref yC, vq20, vq21, vq22, vq23, vq24, vq25, vq26, vq27, vq28, vq29, vq30, vq31, .int 0, .int 0, .int 0, .int 0, .int 0, .int 0, .int 0, .int 0, .int 0, .int 0, .int 0, .int 0, .int 0, .int 0, .long 0, .ref yL, .ref yD, .ref yB, vq50, vq51, vq52, vq53, vq54, vq55, vq56, vq57, .int 0, .int 0, .int 0, .int 0, .int 0, .int 0, vq64, vq65, .int (-1), .int (-1), vq68, vq69, vq70, vq71, vq72, vq73, vq74, vq75, vq76, vq77, vq78, vq79, vq80, vq81, vq82, vq83, .int 0, .int 0, .int (-1), .int 0, vq88, .int 0, vq90, vq91, vq92, vq93, vq94, .int 0]))]) hD hS hA [0] rfl
  refine va_calli (va_runV (As := [.int v_4]) (rest := [.int r_2]) ⟨hx, hb, hml, hown, hts⟩ (m_wet l dC dI H.size v_4 yM yT yF (vq5 : Value) (vq9 : Value) (vq10 : Value) (vq11 : Value) (vq12 : Value) (vq13 : Value) (vq14 : Value) (vq15 : Value) (vq16 : Value) (vq17 : Value) (vq18 : Value) yC (vq20 : Value) (vq21 : Value) (vq22 : Value) (vq23 : Value) (vq24 : Value) (vq25 : Value) (vq26 : Value) (vq27 : Value) (vq28 : Value) (vq29 : Value) (vq30 : Value) (vq31 : Value) yL yD yB (vq50 : Value) (vq51 : Value) (vq52 : Value) (vq53 : Value) (vq54 : Value) (vq55 : Value) (vq56 : Value) (vq57 : Value) (vq64 : Value) (vq65 : Value) (vq68 : Value) (vq69 : Value) (vq70 : Value) (vq71 : Value) (vq72 : Value) (vq73 : Value) (vq74 : Value) (vq75 : Value) (vq76 : Value) (vq77 : Value) (vq78 : Value) (vq79 : Value) (vq80 : Value) (vq81 : Value) (vq82 : Value) (vq83 : Value) (vq88 : Value) (vq90 : Value) (vq91 : Value) (vq92 : Value) (vq93 : Value) (vq94 : Value)) (cwV 1 hts (gV kw_8_10 kw_8_11 kw_8_12 kw_1_15 kw_8_13) rfl rfl rfl (by decide +kernel) ⟨Nat.le_of_ble_eq_true rfl, Nat.le_of_ble_eq_true rfl⟩) ⟨fun a U g mk q => by obtain ⟨q0, q1, qP, qK, qD⟩ := q; exact ⟨q0, q1, qP, va_K.moved (u := U) (U := U.calling g mk a) (Vm.Alike.refl U.vm) qK, qD⟩, va_recv hKc hPc (ci := 12) (q0 := 0) rfl rfl, fun U hU hW => ⟨rfl, by rw [hU], by rw [hU]; exact hPc, va_K.moved hW.alike hKc, hDc.weaken (fun _ _ _ _ => trivial)⟩⟩ rfl rfl hl.1 rfl (lv_room (Nat.le_of_ble_eq_true rfl)) dL_law_654 ⟨Nat.le_of_ble_eq_true rfl, Nat.le_of_ble_eq_true rfl⟩) hS (fun q _ h => hFc q h) hFc (fun r_5 u t H1 locs ht hvm hw hB hz1 hk1 hS => ?_)
  obtain ⟨hP, hD⟩ := va_join (wr := []) (w1 := []) hP hD [0] [] rfl rfl (by decide) (by decide) hk1 hFc (fun k q h => by simp at h) ⟨fun i j p q h => by simp at h, fun k q h => by simp at h⟩
  have hK := hK.sub (tys' := []) [] rfl
  generalize H1 = H at hP hS ⊢
  have hP : va_P (dC, dI) vwCl [] H := hP
  have hD : va_D A [] := hD
  have hK : va_K (dC, dI) vwCl [] s := hK
  have h_6 := hw
  refine lv_icmp_eq (tgt := 1042) hx hb dL_law_657 (by decide) (fun c_7 => ?_) (fun c_7 => ?_)
  rotate_left
  · exact (c_7 (by rw [h_3, h_6]; simp only [ev_1, ev_4])).elim
  refine lv_iinc (v := 7) (lv' := [(4, .int 7), (0, .ref b), (1, .ref xX), (2, .ref yM), (3, .ref yO)]) hx hb dL_law_1042 hl (k := 4) rfl (by decide) (by decide) rfl (fun ls hl => ?_)
  refine lv_goto (tgt := 23) hx hb dL_law_1045 (by decide) ?_
  refine lv_iload hx hb dL_law_23 (lv_at hl 0 rfl) ?_
  refine lv_aload_n hx hb dL_law_25 rfl (lv_at hl 1 rfl) ?_
  refine va_slen hx hb hX hbl hbA hS dL_law_26 ?_
  refine my_ti (y := 7) (by rw [hL7]; rfl) ?_
  refine lv_bipush (v := 7) hx hb dL_law_27 (by decide) ?_
  refine lv_isub hx hb dL_law_29 ?_
  refine my_ti (y := 0) (by decide) ?_
  refine lv_icmp_gt (tgt := 1048) hx hb dL_law_30 (by decide) (fun c_8 => ?_) (fun c_8 => ?_)
  rotate_left
  · exact (c_8 (by decide)).elim
  refine lv_iconst (v := 1) hx hb dL_law_1048 (by decide) ?_
  refine va_forget (fun q hq => by have h9 := hS.2.2 q hq; rw [hAe] at h9; exact h9) ?_
  refine W.widen (k := 600002) (n := 7302232) (Nat.le_of_ble_eq_true rfl) (Nat.le_of_ble_eq_true rfl) ?_
  exact lw_ret hx hb hr hlocks dL_law_1049
set_option maxHeartbeats 4000000 in
set_option maxRecDepth 100000 in
theorem law_12 {p : Program} {e : Env} {s : State} {m : MethodId} {below : List Frame} {meth : Method} {c : Code} (l : Launch) {b L : Nat} {xs : Nat → Int32} (hL7 : L = 7) (C0 : lw_At p s m meth c b L xs) (dC : Nat → ClassId) (dI : Nat → Nat → Nat) (A : Nat → Prop) (hAe : A = fun q => s.heap.size ≤ q) (yO : Nat) (xX : Nat) (xT : Nat) (xW : Nat) (xR : Nat) (xM : Nat) (xS : Nat) (xRo : Nat) (xPe : Nat) (xWh : Nat) (xTr : Nat) (xCo : Nat) (xAl : Nat) (xNl : Nat) (xDr : Nat) (xFa : Nat) (yM : Nat) (yT : Nat) (yF : Nat) (vq5 : Value) (vq9 : Value) (vq10 : Value) (vq11 : Value) (vq12 : Value) (vq13 : Value) (vq14 : Value) (vq15 : Value) (vq16 : Value) (vq17 : Value) (vq18 : Value) (yC : Nat) (vq20 : Value) (vq21 : Value) (vq22 : Value) (vq23 : Value) (vq24 : Value) (vq25 : Value) (vq26 : Value) (vq27 : Value) (vq28 : Value) (vq29 : Value) (vq30 : Value) (vq31 : Value) (yL : Nat) (yD : Nat) (yB : Nat) (vq50 : Value) (vq51 : Value) (vq52 : Value) (vq53 : Value) (vq54 : Value) (vq55 : Value) (vq56 : Value) (vq57 : Value) (vq64 : Value) (vq65 : Value) (vq68 : Value) (vq69 : Value) (vq70 : Value) (vq71 : Value) (vq72 : Value) (vq73 : Value) (vq74 : Value) (vq75 : Value) (vq76 : Value) (vq77 : Value) (vq78 : Value) (vq79 : Value) (vq80 : Value) (vq81 : Value) (vq82 : Value) (vq83 : Value) (vq88 : Value) (vq90 : Value) (vq91 : Value) (vq92 : Value) (vq93 : Value) (vq94 : Value) (H : Heap) (locs : List Loc) (hK : va_K (dC, dI) vwCl [] s) (hP : va_P (dC, dI) vwCl [(xX, .inr (11, [.ref xT, .int 0, .ref xW, .ref xR, .ref xM, .ref xS, .int (-1), .int 0, .int (-1)])), (xW, .inr (7, [.ref xRo, .ref xPe, .ref xWh, .ref xTr, .ref xCo, .int 0, .ref xAl, .ref xNl, .ref xDr, .int 0, .ref xFa, .int 0, .int 0, .int 0])), (yM, .inr (12, [.int 0, .ref yT, .int 0, .int 0, .ref yF, vq5, .int 0, .int 0, .int 0, vq9, vq10, vq11, vq12, vq13, vq14, vq15, vq16, vq17, vq18, .ref yC, vq20, vq21, vq22, vq23, vq24, vq25, vq26, vq27, vq28, vq29, vq30, vq31, .int 0, .int 0, .int 0, .int 0, .int 0, .int 0, .int 0, .int 0, .int 0, .int 0, .int 0, .int 0, .int 0, .int 0, .long 0, .ref yL, .ref yD, .ref yB, vq50, vq51, vq52, vq53, vq54, vq55, vq56, vq57, .int 0, .int 0, .int 0, .int 0, .int 0, .int 0, vq64, vq65, .int (-1), .int (-1), vq68, vq69, vq70, vq71, vq72, vq73, vq74, vq75, vq76, vq77, vq78, vq79, vq80, vq81, vq82, vq83, .int 0, .int 0, .int (-1), .int 0, vq88, .int 0, vq90, vq91, vq92, vq93, vq94, .int 0]))] H) (hD : va_D A [(xX, .inr (11, [.ref xT, .int 0, .ref xW, .ref xR, .ref xM, .ref xS, .int (-1), .int 0, .int (-1)])), (xW, .inr (7, [.ref xRo, .ref xPe, .ref xWh, .ref xTr, .ref xCo, .int 0, .ref xAl, .ref xNl, .ref xDr, .int 0, .ref xFa, .int 0, .int 0, .int 0])), (yM, .inr (12, [.int 0, .ref yT, .int 0, .int 0, .ref yF, vq5, .int 0, .int 0, .int 0, vq9, vq10, vq11, vq12, vq13, vq14, vq15, vq16, vq17, vq18, .ref yC, vq20, vq21, vq22, vq23, vq24, vq25, vq26, vq27, vq28, vq29, vq30, vq31, .int 0, .int 0, .int 0, .int 0, .int 0, .int 0, .int 0, .int 0, .int 0, .int 0, .int 0, .int 0, .int 0, .int 0, .long 0, .ref yL, .ref yD, .ref yB, vq50, vq51, vq52, vq53, vq54, vq55, vq56, vq57, .int 0, .int 0, .int 0, .int 0, .int 0, .int 0, vq64, vq65, .int (-1), .int (-1), vq68, vq69, vq70, vq71, vq72, vq73, vq74, vq75, vq76, vq77, vq78, vq79, vq80, vq81, vq82, vq83, .int 0, .int 0, .int (-1), .int 0, vq88, .int 0, vq90, vq91, vq92, vq93, vq94, .int 0]))]) (hS : va_S A s.heap H locs) (ls : Array Slot) (hl : lv_has ls 7 [(0, .ref b), (1, .ref xX), (2, .ref yM), (3, .ref yO), (4, .int 0)]) : W p l e room_1 s m #[Value.ref b] below meth c H locs 156 13846 (lw_Z below #[Value.ref b] s) (F0 m 662 ls []) := by
  obtain ⟨hx, hb, hr, hml, hown, hts0, hX, hbl, hlocks, hgv⟩ := id C0
  have hb : c.code = cL_law := hb
  have hown : s.vm.findClass RL = some m.cls := hown
  have hts : ∀ w ∈ (.initialized RL :: lw_good : List Cond), w.before #[Value.ref b] s = true := fun w h => (List.mem_cons.mp h).elim (fun q => by rw [q]; exact hts0 _ (lwgT kw_1_0)) (fun q => hts0 w (lwgT q))
  have hA : ∀ q : Nat, s.heap.size ≤ q → A q := fun q h => by rw [hAe]; exact h
  have hbA : ¬ A b := by rw [hAe]; exact Nat.not_le.mpr hbl
  refine lv_aload_n hx hb dL_law_662 rfl (lv_at hl 1 rfl) ?_
  refine lv_aload_n hx hb dL_law_663 rfl (lv_at hl 0 rfl) ?_
  refine lv_iload hx hb dL_law_664 (lv_at hl 4 rfl) ?_
  refine lv_iconst (v := 1) hx hb dL_law_666 (by decide) ?_
  refine lv_iadd hx hb dL_law_667 ?_
  refine my_ti (y := 1) (by decide) ?_
  refine va_sld hx hb hX hbl hbA hS (by rw [hL7]; unfold vp_in; decide) dL_law_668 ?_
  refine lv_topi (fun v_1 ev_1 => ?_)
  have hPc := hP.sub (ws' := [(xX, .inr (11, [.ref xT, .int 0, .ref xW, .ref xR, .ref xM, .ref xS, .int (-1), .int 0, .int (-1)])), (xW, .inr (7, [.ref xRo, .ref xPe, .ref xWh, .ref xTr, .ref xCo, .int 0, .ref xAl, .ref xNl, .ref xDr, .int 0, .ref xFa, .int 0, .int 0, .int 0]))]) [0, 1] rfl
  have hDc := hD.sub (ws' := [(xX, .inr (11, [.ref xT, .int 0, .ref xW, .ref xR, .ref xM, .ref xS, .int (-1), .int 0, .int (-1)])), (xW, .inr (7, [.ref xRo, .ref xPe, .ref xWh, .ref xTr, .ref xCo, .int 0, .ref xAl, .ref xNl, .ref xDr, .int 0, .ref xFa, .int 0, .int 0, .int 0]))]) [0, 1] (by decide) rfl
  have hKc := hK.sub (tys' := []) [] rfl
  have hFc := va_free (wc := [(xX, .inr (11, [.ref xT, .int 0, .ref xW, .ref xR, .ref xM, .ref xS, .int (-1), .int 0, .int (-1)])), (xW, .inr (7, [.ref xRo, .ref xPe, .ref xWh, .ref xTr, .ref xCo, .int 0, .ref xAl, .ref xNl, .ref xDr, .int 0, .ref xFa, .int 0, .int 0, .int 0]))]) hD hS hA [0, 1] rfl
  refine va_calli (va_runV (As := [.int v_1]) (rest := []) ⟨hx, hb, hml, hown, hts⟩ (x_give l dC dI H.size v_1 xX xT xW xR xM xS xRo xPe xWh xTr xCo xAl xNl xDr xFa) (cwV 1 hts (gV kw_3_234 kw_3_235 kw_3_236 kw_1_1 kw_3_237) rfl rfl rfl (by decide +kernel) ⟨Nat.le_of_ble_eq_true rfl, Nat.le_of_ble_eq_true rfl⟩) ⟨fun a U g mk q => by obtain ⟨q0, q1, qP, qK, qD⟩ := q; exact ⟨q0, q1, qP, va_K.moved (u := U) (U := U.calling g mk a) (Vm.Alike.refl U.vm) qK, qD⟩, va_recv hKc hPc (ci := 11) (q0 := 0) rfl rfl, fun U hU hW => ⟨rfl, by rw [hU], by rw [hU]; exact hPc, va_K.moved hW.alike hKc, hDc.weaken (fun _ _ _ _ => trivial)⟩⟩ rfl rfl hl.1 rfl (lv_room (Nat.le_of_ble_eq_true rfl)) dL_law_669 ⟨Nat.le_of_ble_eq_true rfl, Nat.le_of_ble_eq_true rfl⟩) hS (fun q _ h => hFc q h) hFc (fun r_2 u t H1 locs ht hvm hw hB hz1 hk1 hS => ?_)
  obtain ⟨hP, hD⟩ := va_join (wr := [(yM, .inr (12, [.int 0, .ref yT, .int 0, .int 0, .ref yF, vq5, .int 0, .int 0, .int 0, vq9, vq10, vq11, vq12, vq13, vq14, vq15, vq16, vq17, vq18, .ref yC, vq20, vq21, vq22, vq23, vq24, vq25, vq26, vq27, vq28, vq29, vq30, vq31, .int 0, .int 0, .int 0, .int 0, .int 0, .int 0, .int 0, .int 0, .int 0, .int 0, .int 0, .int 0, .int 0, .int 0, .long 0, .ref yL, .ref yD, .ref yB, vq50, vq51, vq52, vq53, vq54, vq55, vq56, vq57, .int 0, .int 0, .int 0, .int 0, .int 0, .int 0, vq64, vq65, .int (-1), .int (-1), vq68, vq69, vq70, vq71, vq72, vq73, vq74, vq75, vq76, vq77, vq78, vq79, vq80, vq81, vq82, vq83, .int 0, .int 0, .int (-1), .int 0, vq88, .int 0, vq90, vq91, vq92, vq93, vq94, .int 0]))]) (w1 := []) hP hD [0, 1] [2] rfl rfl (by decide) (by decide) hk1 hFc (fun k q h => by simp at h) ⟨fun i j p q h => by simp at h, fun k q h => by simp at h⟩
  have hK := hK.sub (tys' := []) [] rfl
  generalize H1 = H at hP hS ⊢
  have hP : va_P (dC, dI) vwCl [(yM, .inr (12, [.int 0, .ref yT, .int 0, .int 0, .ref yF, vq5, .int 0, .int 0, .int 0, vq9, vq10, vq11, vq12, vq13, vq14, vq15, vq16, vq17, vq18, .ref yC, vq20, vq21, vq22, vq23, vq24, vq25, vq26, vq27, vq28, vq29, vq30, vq31, .int 0, .int 0, .int 0, .int 0, .int 0, .int 0, .int 0, .int 0, .int 0, .int 0, .int 0, .int 0, .int 0, .int 0, .long 0, .ref yL, .ref yD, .ref yB, vq50, vq51, vq52, vq53, vq54, vq55, vq56, vq57, .int 0, .int 0, .int 0, .int 0, .int 0, .int 0, vq64, vq65, .int (-1), .int (-1), vq68, vq69, vq70, vq71, vq72, vq73, vq74, vq75, vq76, vq77, vq78, vq79, vq80, vq81, vq82, vq83, .int 0, .int 0, .int (-1), .int 0, vq88, .int 0, vq90, vq91, vq92, vq93, vq94, .int 0]))] H := hP
  have hD : va_D A [(yM, .inr (12, [.int 0, .ref yT, .int 0, .int 0, .ref yF, vq5, .int 0, .int 0, .int 0, vq9, vq10, vq11, vq12, vq13, vq14, vq15, vq16, vq17, vq18, .ref yC, vq20, vq21, vq22, vq23, vq24, vq25, vq26, vq27, vq28, vq29, vq30, vq31, .int 0, .int 0, .int 0, .int 0, .int 0, .int 0, .int 0, .int 0, .int 0, .int 0, .int 0, .int 0, .int 0, .int 0, .long 0, .ref yL, .ref yD, .ref yB, vq50, vq51, vq52, vq53, vq54, vq55, vq56, vq57, .int 0, .int 0, .int 0, .int 0, .int 0, .int 0, vq64, vq65, .int (-1), .int (-1), vq68, vq69, vq70, vq71, vq72, vq73, vq74, vq75, vq76, vq77, vq78, vq79, vq80, vq81, vq82, vq83, .int 0, .int 0, .int (-1), .int 0, vq88, .int 0, vq90, vq91, vq92, vq93, vq94, .int 0]))] := hD
  have hK : va_K (dC, dI) vwCl [] s := hK
  have h_3 := hw
  refine lv_aload_n hx hb dL_law_672 rfl (lv_at hl 2 rfl) ?_
  refine lv_aload_n hx hb dL_law_673 rfl (lv_at hl 0 rfl) ?_
  refine lv_iload hx hb dL_law_674 (lv_at hl 4 rfl) ?_
  refine lv_iconst (v := 1) hx hb dL_law_676 (by decide) ?_
  refine lv_iadd hx hb dL_law_677 ?_
  refine my_ti (y := 1) (by decide) ?_
  refine va_sld hx hb hX hbl hbA hS (by rw [hL7]; unfold vp_in; decide) dL_law_678 ?_
  refine lv_topi (fun v_4 ev_4 => ?_)
  have hPc := hP.sub (ws' := [(yM, .inr (12, [.int 0, .ref yT, .int 0, .int 0, .ref yF, vq5, .int 0, .int 0, .int 0, vq9, vq10, vq11, vq12, vq13, vq14, vq15, vq16, vq17, vq18, .ref yC, vq20, vq21, vq22, vq23, vq24, vq25, vq26, vq27, vq28, vq29, vq30, vq31, .int 0, .int 0, .int 0, .int 0, .int 0, .int 0, .int 0, .int 0, .int 0, .int 0, .int 0, .int 0, .int 0, .int 0, .long 0, .ref yL, .ref yD, .ref yB, vq50, vq51, vq52, vq53, vq54, vq55, vq56, vq57, .int 0, .int 0, .int 0, .int 0, .int 0, .int 0, vq64, vq65, .int (-1), .int (-1), vq68, vq69, vq70, vq71, vq72, vq73, vq74, vq75, vq76, vq77, vq78, vq79, vq80, vq81, vq82, vq83, .int 0, .int 0, .int (-1), .int 0, vq88, .int 0, vq90, vq91, vq92, vq93, vq94, .int 0]))]) [0] rfl
  have hDc := hD.sub (ws' := [(yM, .inr (12, [.int 0, .ref yT, .int 0, .int 0, .ref yF, vq5, .int 0, .int 0, .int 0, vq9, vq10, vq11, vq12, vq13, vq14, vq15, vq16, vq17, vq18, .ref yC, vq20, vq21, vq22, vq23, vq24, vq25, vq26, vq27, vq28, vq29, vq30, vq31, .int 0, .int 0, .int 0, .int 0, .int 0, .int 0, .int 0, .int 0, .int 0, .int 0, .int 0, .int 0, .int 0, .int 0, .long 0, .ref yL, .ref yD, .ref yB, vq50, vq51, vq52, vq53, vq54, vq55, vq56, vq57, .int 0, .int 0, .int 0, .int 0, .int 0, .int 0, vq64, vq65, .int (-1), .int (-1), vq68, vq69, vq70, vq71, vq72, vq73, vq74, vq75, vq76, vq77, vq78, vq79, vq80, vq81, vq82, vq83, .int 0, .int 0, .int (-1), .int 0, vq88, .int 0, vq90, vq91, vq92, vq93, vq94, .int 0]))]) [0] (by decide) rfl
  have hKc := hK.sub (tys' := []) [] rfl
  have hFc := va_free (wc := [(yM, .inr (12, [.int 0, .ref yT, .int 0, .int 0, .ref yF, vq5, .int 0, .int 0, .int 0, vq9, vq10, vq11, vq12, vq13, vq14, vq15, vq16, vq17, vq18, .ref yC, vq20, vq21, vq22, vq23, vq24, vq25, vq26, vq27, vq28, vq29, vq30, vq31, .int 0, .int 0, .int 0, .int 0, .int 0, .int 0, .int 0, .int 0, .int 0, .int 0, .int 0, .int 0, .int 0, .int 0, .long 0, .ref yL, .ref yD, .ref yB, vq50, vq51, vq52, vq53, vq54, vq55, vq56, vq57, .int 0, .int 0, .int 0, .int 0, .int 0, .int 0, vq64, vq65, .int (-1), .int (-1), vq68, vq69, vq70, vq71, vq72, vq73, vq74, vq75, vq76, vq77, vq78, vq79, vq80, vq81, vq82, vq83, .int 0, .int 0, .int (-1), .int 0, vq88, .int 0, vq90, vq91, vq92, vq93, vq94, .int 0]))]) hD hS hA [0] rfl
  refine va_calli (va_runV (As := [.int v_4]) (rest := [.int r_2]) ⟨hx, hb, hml, hown, hts⟩ (m_give l dC dI H.size v_4 yM yT yF (vq5 : Value) (vq9 : Value) (vq10 : Value) (vq11 : Value) (vq12 : Value) (vq13 : Value) (vq14 : Value) (vq15 : Value) (vq16 : Value) (vq17 : Value) (vq18 : Value) yC (vq20 : Value) (vq21 : Value) (vq22 : Value) (vq23 : Value) (vq24 : Value) (vq25 : Value) (vq26 : Value) (vq27 : Value) (vq28 : Value) (vq29 : Value) (vq30 : Value) (vq31 : Value) yL yD yB (vq50 : Value) (vq51 : Value) (vq52 : Value) (vq53 : Value) (vq54 : Value) (vq55 : Value) (vq56 : Value) (vq57 : Value) (vq64 : Value) (vq65 : Value) (vq68 : Value) (vq69 : Value) (vq70 : Value) (vq71 : Value) (vq72 : Value) (vq73 : Value) (vq74 : Value) (vq75 : Value) (vq76 : Value) (vq77 : Value) (vq78 : Value) (vq79 : Value) (vq80 : Value) (vq81 : Value) (vq82 : Value) (vq83 : Value) (vq88 : Value) (vq90 : Value) (vq91 : Value) (vq92 : Value) (vq93 : Value) (vq94 : Value)) (cwV 1 hts (gV kw_8_49 kw_8_50 kw_8_51 kw_1_15 kw_8_52) rfl rfl rfl (by decide +kernel) ⟨Nat.le_of_ble_eq_true rfl, Nat.le_of_ble_eq_true rfl⟩) ⟨fun a U g mk q => by obtain ⟨q0, q1, qP, qK, qD⟩ := q; exact ⟨q0, q1, qP, va_K.moved (u := U) (U := U.calling g mk a) (Vm.Alike.refl U.vm) qK, qD⟩, va_recv hKc hPc (ci := 12) (q0 := 0) rfl rfl, fun U hU hW => ⟨rfl, by rw [hU], by rw [hU]; exact hPc, va_K.moved hW.alike hKc, hDc.weaken (fun _ _ _ _ => trivial)⟩⟩ rfl rfl hl.1 rfl (lv_room (Nat.le_of_ble_eq_true rfl)) dL_law_679 ⟨Nat.le_of_ble_eq_true rfl, Nat.le_of_ble_eq_true rfl⟩) hS (fun q _ h => hFc q h) hFc (fun r_5 u t H1 locs ht hvm hw hB hz1 hk1 hS => ?_)
  obtain ⟨hP, hD⟩ := va_join (wr := []) (w1 := []) hP hD [0] [] rfl rfl (by decide) (by decide) hk1 hFc (fun k q h => by simp at h) ⟨fun i j p q h => by simp at h, fun k q h => by simp at h⟩
  have hK := hK.sub (tys' := []) [] rfl
  generalize H1 = H at hP hS ⊢
  have hP : va_P (dC, dI) vwCl [] H := hP
  have hD : va_D A [] := hD
  have hK : va_K (dC, dI) vwCl [] s := hK
  have h_6 := hw
  refine lv_icmp_eq (tgt := 1042) hx hb dL_law_682 (by decide) (fun c_7 => ?_) (fun c_7 => ?_)
  rotate_left
  · exact (c_7 (by rw [h_3, h_6]; simp only [ev_1, ev_4])).elim
  refine lv_iinc (v := 7) (lv' := [(4, .int 7), (0, .ref b), (1, .ref xX), (2, .ref yM), (3, .ref yO)]) hx hb dL_law_1042 hl (k := 4) rfl (by decide) (by decide) rfl (fun ls hl => ?_)
  refine lv_goto (tgt := 23) hx hb dL_law_1045 (by decide) ?_
  refine lv_iload hx hb dL_law_23 (lv_at hl 0 rfl) ?_
  refine lv_aload_n hx hb dL_law_25 rfl (lv_at hl 1 rfl) ?_
  refine va_slen hx hb hX hbl hbA hS dL_law_26 ?_
  refine my_ti (y := 7) (by rw [hL7]; rfl) ?_
  refine lv_bipush (v := 7) hx hb dL_law_27 (by decide) ?_
  refine lv_isub hx hb dL_law_29 ?_
  refine my_ti (y := 0) (by decide) ?_
  refine lv_icmp_gt (tgt := 1048) hx hb dL_law_30 (by decide) (fun c_8 => ?_) (fun c_8 => ?_)
  rotate_left
  · exact (c_8 (by decide)).elim
  refine lv_iconst (v := 1) hx hb dL_law_1048 (by decide) ?_
  refine va_forget (fun q hq => by have h9 := hS.2.2 q hq; rw [hAe] at h9; exact h9) ?_
  refine W.widen (k := 600002) (n := 7302232) (Nat.le_of_ble_eq_true rfl) (Nat.le_of_ble_eq_true rfl) ?_
  exact lw_ret hx hb hr hlocks dL_law_1049
set_option maxHeartbeats 4000000 in
set_option maxRecDepth 100000 in
theorem law_14 {p : Program} {e : Env} {s : State} {m : MethodId} {below : List Frame} {meth : Method} {c : Code} (l : Launch) {b L : Nat} {xs : Nat → Int32} (hL7 : L = 7) (C0 : lw_At p s m meth c b L xs) (dC : Nat → ClassId) (dI : Nat → Nat → Nat) (A : Nat → Prop) (hAe : A = fun q => s.heap.size ≤ q) (yO : Nat) (xX : Nat) (xT : Nat) (xW : Nat) (xR : Nat) (xM : Nat) (xS : Nat) (yM : Nat) (yT : Nat) (yF : Nat) (vq5 : Value) (vq9 : Value) (vq10 : Value) (vq11 : Value) (vq12 : Value) (vq13 : Value) (vq14 : Value) (vq15 : Value) (vq16 : Value) (vq17 : Value) (vq18 : Value) (yC : Nat) (vq20 : Value) (vq21 : Value) (vq22 : Value) (vq23 : Value) (vq24 : Value) (vq25 : Value) (vq26 : Value) (vq27 : Value) (vq28 : Value) (vq29 : Value) (vq30 : Value) (vq31 : Value) (yL : Nat) (yD : Nat) (yB : Nat) (vq50 : Value) (vq51 : Value) (vq52 : Value) (vq53 : Value) (vq54 : Value) (vq55 : Value) (vq56 : Value) (vq57 : Value) (vq64 : Value) (vq65 : Value) (vq68 : Value) (vq69 : Value) (vq70 : Value) (vq71 : Value) (vq72 : Value) (vq73 : Value) (vq74 : Value) (vq75 : Value) (vq76 : Value) (vq77 : Value) (vq78 : Value) (vq79 : Value) (vq80 : Value) (vq81 : Value) (vq82 : Value) (vq83 : Value) (vq88 : Value) (vq90 : Value) (vq91 : Value) (vq92 : Value) (vq93 : Value) (vq94 : Value) (H : Heap) (locs : List Loc) (hK : va_K (dC, dI) vwCl [] s) (hP : va_P (dC, dI) vwCl [(xX, .inr (11, [.ref xT, .int 0, .ref xW, .ref xR, .ref xM, .ref xS, .int (-1), .int 0, .int (-1)])), (yM, .inr (12, [.int 0, .ref yT, .int 0, .int 0, .ref yF, vq5, .int 0, .int 0, .int 0, vq9, vq10, vq11, vq12, vq13, vq14, vq15, vq16, vq17, vq18, .ref yC, vq20, vq21, vq22, vq23, vq24, vq25, vq26, vq27, vq28, vq29, vq30, vq31, .int 0, .int 0, .int 0, .int 0, .int 0, .int 0, .int 0, .int 0, .int 0, .int 0, .int 0, .int 0, .int 0, .int 0, .long 0, .ref yL, .ref yD, .ref yB, vq50, vq51, vq52, vq53, vq54, vq55, vq56, vq57, .int 0, .int 0, .int 0, .int 0, .int 0, .int 0, vq64, vq65, .int (-1), .int (-1), vq68, vq69, vq70, vq71, vq72, vq73, vq74, vq75, vq76, vq77, vq78, vq79, vq80, vq81, vq82, vq83, .int 0, .int 0, .int (-1), .int 0, vq88, .int 0, vq90, vq91, vq92, vq93, vq94, .int 0]))] H) (hD : va_D A [(xX, .inr (11, [.ref xT, .int 0, .ref xW, .ref xR, .ref xM, .ref xS, .int (-1), .int 0, .int (-1)])), (yM, .inr (12, [.int 0, .ref yT, .int 0, .int 0, .ref yF, vq5, .int 0, .int 0, .int 0, vq9, vq10, vq11, vq12, vq13, vq14, vq15, vq16, vq17, vq18, .ref yC, vq20, vq21, vq22, vq23, vq24, vq25, vq26, vq27, vq28, vq29, vq30, vq31, .int 0, .int 0, .int 0, .int 0, .int 0, .int 0, .int 0, .int 0, .int 0, .int 0, .int 0, .int 0, .int 0, .int 0, .long 0, .ref yL, .ref yD, .ref yB, vq50, vq51, vq52, vq53, vq54, vq55, vq56, vq57, .int 0, .int 0, .int 0, .int 0, .int 0, .int 0, vq64, vq65, .int (-1), .int (-1), vq68, vq69, vq70, vq71, vq72, vq73, vq74, vq75, vq76, vq77, vq78, vq79, vq80, vq81, vq82, vq83, .int 0, .int 0, .int (-1), .int 0, vq88, .int 0, vq90, vq91, vq92, vq93, vq94, .int 0]))]) (hS : va_S A s.heap H locs) (ls : Array Slot) (hl : lv_has ls 7 [(0, .ref b), (1, .ref xX), (2, .ref yM), (3, .ref yO), (4, .int 0)]) : W p l e room_1 s m #[Value.ref b] below meth c H locs 156 13846 (lw_Z below #[Value.ref b] s) (F0 m 712 ls []) := by
  obtain ⟨hx, hb, hr, hml, hown, hts0, hX, hbl, hlocks, hgv⟩ := id C0
  have hb : c.code = cL_law := hb
  have hown : s.vm.findClass RL = some m.cls := hown
  have hts : ∀ w ∈ (.initialized RL :: lw_good : List Cond), w.before #[Value.ref b] s = true := fun w h => (List.mem_cons.mp h).elim (fun q => by rw [q]; exact hts0 _ (lwgT kw_1_0)) (fun q => hts0 w (lwgT q))
  have hA : ∀ q : Nat, s.heap.size ≤ q → A q := fun q h => by rw [hAe]; exact h
  have hbA : ¬ A b := by rw [hAe]; exact Nat.not_le.mpr hbl
  refine lv_aload_n hx hb dL_law_712 rfl (lv_at hl 1 rfl) ?_
  have hPc := hP.sub (ws' := [(xX, .inr (11, [.ref xT, .int 0, .ref xW, .ref xR, .ref xM, .ref xS, .int (-1), .int 0, .int (-1)]))]) [0] rfl
  have hDc := hD.sub (ws' := [(xX, .inr (11, [.ref xT, .int 0, .ref xW, .ref xR, .ref xM, .ref xS, .int (-1), .int 0, .int (-1)]))]) [0] (by decide) rfl
  have hKc := hK.sub (tys' := []) [] rfl
  have hFc := va_free (wc := [(xX, .inr (11, [.ref xT, .int 0, .ref xW, .ref xR, .ref xM, .ref xS, .int (-1), .int 0, .int (-1)]))]) hD hS hA [0] rfl
  refine va_calli (va_runV (As := []) (rest := []) ⟨hx, hb, hml, hown, hts⟩ (x_fault l dC dI H.size xX xT xW xR xM xS) (cwV 0 hts (gV kw_4_229 kw_4_230 kw_4_231 kw_1_1 kw_4_232) rfl rfl rfl (by decide +kernel) ⟨Nat.le_of_ble_eq_true rfl, Nat.le_of_ble_eq_true rfl⟩) ⟨fun a U g mk q => by obtain ⟨q0, q1, qP, qK, qD⟩ := q; exact ⟨q0, q1, qP, va_K.moved (u := U) (U := U.calling g mk a) (Vm.Alike.refl U.vm) qK, qD⟩, va_recv hKc hPc (ci := 11) (q0 := 0) rfl rfl, fun U hU hW => ⟨rfl, by rw [hU], by rw [hU]; exact hPc, va_K.moved hW.alike hKc, hDc.weaken (fun _ _ _ _ => trivial)⟩⟩ rfl rfl hl.1 rfl (lv_room (Nat.le_of_ble_eq_true rfl)) dL_law_713 ⟨Nat.le_of_ble_eq_true rfl, Nat.le_of_ble_eq_true rfl⟩) hS (fun q _ h => hFc q h) hFc (fun r_1 u t H1 locs ht hvm hw hB hz1 hk1 hS => ?_)
  obtain ⟨hP, hD⟩ := va_join (wr := [(yM, .inr (12, [.int 0, .ref yT, .int 0, .int 0, .ref yF, vq5, .int 0, .int 0, .int 0, vq9, vq10, vq11, vq12, vq13, vq14, vq15, vq16, vq17, vq18, .ref yC, vq20, vq21, vq22, vq23, vq24, vq25, vq26, vq27, vq28, vq29, vq30, vq31, .int 0, .int 0, .int 0, .int 0, .int 0, .int 0, .int 0, .int 0, .int 0, .int 0, .int 0, .int 0, .int 0, .int 0, .long 0, .ref yL, .ref yD, .ref yB, vq50, vq51, vq52, vq53, vq54, vq55, vq56, vq57, .int 0, .int 0, .int 0, .int 0, .int 0, .int 0, vq64, vq65, .int (-1), .int (-1), vq68, vq69, vq70, vq71, vq72, vq73, vq74, vq75, vq76, vq77, vq78, vq79, vq80, vq81, vq82, vq83, .int 0, .int 0, .int (-1), .int 0, vq88, .int 0, vq90, vq91, vq92, vq93, vq94, .int 0]))]) (w1 := []) hP hD [0] [1] rfl rfl (by decide) (by decide) hk1 hFc (fun k q h => by simp at h) ⟨fun i j p q h => by simp at h, fun k q h => by simp at h⟩
  have hK := hK.sub (tys' := []) [] rfl
  generalize H1 = H at hP hS ⊢
  have hP : va_P (dC, dI) vwCl [(yM, .inr (12, [.int 0, .ref yT, .int 0, .int 0, .ref yF, vq5, .int 0, .int 0, .int 0, vq9, vq10, vq11, vq12, vq13, vq14, vq15, vq16, vq17, vq18, .ref yC, vq20, vq21, vq22, vq23, vq24, vq25, vq26, vq27, vq28, vq29, vq30, vq31, .int 0, .int 0, .int 0, .int 0, .int 0, .int 0, .int 0, .int 0, .int 0, .int 0, .int 0, .int 0, .int 0, .int 0, .long 0, .ref yL, .ref yD, .ref yB, vq50, vq51, vq52, vq53, vq54, vq55, vq56, vq57, .int 0, .int 0, .int 0, .int 0, .int 0, .int 0, vq64, vq65, .int (-1), .int (-1), vq68, vq69, vq70, vq71, vq72, vq73, vq74, vq75, vq76, vq77, vq78, vq79, vq80, vq81, vq82, vq83, .int 0, .int 0, .int (-1), .int 0, vq88, .int 0, vq90, vq91, vq92, vq93, vq94, .int 0]))] H := hP
  have hD : va_D A [(yM, .inr (12, [.int 0, .ref yT, .int 0, .int 0, .ref yF, vq5, .int 0, .int 0, .int 0, vq9, vq10, vq11, vq12, vq13, vq14, vq15, vq16, vq17, vq18, .ref yC, vq20, vq21, vq22, vq23, vq24, vq25, vq26, vq27, vq28, vq29, vq30, vq31, .int 0, .int 0, .int 0, .int 0, .int 0, .int 0, .int 0, .int 0, .int 0, .int 0, .int 0, .int 0, .int 0, .int 0, .long 0, .ref yL, .ref yD, .ref yB, vq50, vq51, vq52, vq53, vq54, vq55, vq56, vq57, .int 0, .int 0, .int 0, .int 0, .int 0, .int 0, vq64, vq65, .int (-1), .int (-1), vq68, vq69, vq70, vq71, vq72, vq73, vq74, vq75, vq76, vq77, vq78, vq79, vq80, vq81, vq82, vq83, .int 0, .int 0, .int (-1), .int 0, vq88, .int 0, vq90, vq91, vq92, vq93, vq94, .int 0]))] := hD
  have hK : va_K (dC, dI) vwCl [] s := hK
  subst hw
  refine lv_aload_n hx hb dL_law_716 rfl (lv_at hl 2 rfl) ?_
  have hPc := hP.sub (ws' := [(yM, .inr (12, [.int 0, .ref yT, .int 0, .int 0, .ref yF, vq5, .int 0, .int 0, .int 0, vq9, vq10, vq11, vq12, vq13, vq14, vq15, vq16, vq17, vq18, .ref yC, vq20, vq21, vq22, vq23, vq24, vq25, vq26, vq27, vq28, vq29, vq30, vq31, .int 0, .int 0, .int 0, .int 0, .int 0, .int 0, .int 0, .int 0, .int 0, .int 0, .int 0, .int 0, .int 0, .int 0, .long 0, .ref yL, .ref yD, .ref yB, vq50, vq51, vq52, vq53, vq54, vq55, vq56, vq57, .int 0, .int 0, .int 0, .int 0, .int 0, .int 0, vq64, vq65, .int (-1), .int (-1), vq68, vq69, vq70, vq71, vq72, vq73, vq74, vq75, vq76, vq77, vq78, vq79, vq80, vq81, vq82, vq83, .int 0, .int 0, .int (-1), .int 0, vq88, .int 0, vq90, vq91, vq92, vq93, vq94, .int 0]))]) [0] rfl
  have hDc := hD.sub (ws' := [(yM, .inr (12, [.int 0, .ref yT, .int 0, .int 0, .ref yF, vq5, .int 0, .int 0, .int 0, vq9, vq10, vq11, vq12, vq13, vq14, vq15, vq16, vq17, vq18, .ref yC, vq20, vq21, vq22, vq23, vq24, vq25, vq26, vq27, vq28, vq29, vq30, vq31, .int 0, .int 0, .int 0, .int 0, .int 0, .int 0, .int 0, .int 0, .int 0, .int 0, .int 0, .int 0, .int 0, .int 0, .long 0, .ref yL, .ref yD, .ref yB, vq50, vq51, vq52, vq53, vq54, vq55, vq56, vq57, .int 0, .int 0, .int 0, .int 0, .int 0, .int 0, vq64, vq65, .int (-1), .int (-1), vq68, vq69, vq70, vq71, vq72, vq73, vq74, vq75, vq76, vq77, vq78, vq79, vq80, vq81, vq82, vq83, .int 0, .int 0, .int (-1), .int 0, vq88, .int 0, vq90, vq91, vq92, vq93, vq94, .int 0]))]) [0] (by decide) rfl
  have hKc := hK.sub (tys' := []) [] rfl
  have hFc := va_free (wc := [(yM, .inr (12, [.int 0, .ref yT, .int 0, .int 0, .ref yF, vq5, .int 0, .int 0, .int 0, vq9, vq10, vq11, vq12, vq13, vq14, vq15, vq16, vq17, vq18, .ref yC, vq20, vq21, vq22, vq23, vq24, vq25, vq26, vq27, vq28, vq29, vq30, vq31, .int 0, .int 0, .int 0, .int 0, .int 0, .int 0, .int 0, .int 0, .int 0, .int 0, .int 0, .int 0, .int 0, .int 0, .long 0, .ref yL, .ref yD, .ref yB, vq50, vq51, vq52, vq53, vq54, vq55, vq56, vq57, .int 0, .int 0, .int 0, .int 0, .int 0, .int 0, vq64, vq65, .int (-1), .int (-1), vq68, vq69, vq70, vq71, vq72, vq73, vq74, vq75, vq76, vq77, vq78, vq79, vq80, vq81, vq82, vq83, .int 0, .int 0, .int (-1), .int 0, vq88, .int 0, vq90, vq91, vq92, vq93, vq94, .int 0]))]) hD hS hA [0] rfl
  refine va_calli (va_runV (As := []) (rest := [.int 0]) ⟨hx, hb, hml, hown, hts⟩ (m_fault l dC dI H.size yM yT yF (vq5 : Value) (vq9 : Value) (vq10 : Value) (vq11 : Value) (vq12 : Value) (vq13 : Value) (vq14 : Value) (vq15 : Value) (vq16 : Value) (vq17 : Value) (vq18 : Value) yC (vq20 : Value) (vq21 : Value) (vq22 : Value) (vq23 : Value) (vq24 : Value) (vq25 : Value) (vq26 : Value) (vq27 : Value) (vq28 : Value) (vq29 : Value) (vq30 : Value) (vq31 : Value) yL yD yB (vq50 : Value) (vq51 : Value) (vq52 : Value) (vq53 : Value) (vq54 : Value) (vq55 : Value) (vq56 : Value) (vq57 : Value) (vq64 : Value) (vq65 : Value) (vq68 : Value) (vq69 : Value) (vq70 : Value) (vq71 : Value) (vq72 : Value) (vq73 : Value) (vq74 : Value) (vq75 : Value) (vq76 : Value) (vq77 : Value) (vq78 : Value) (vq79 : Value) (vq80 : Value) (vq81 : Value) (vq82 : Value) (vq83 : Value) (vq88 : Value) (vq90 : Value) (vq91 : Value) (vq92 : Value) (vq93 : Value) (vq94 : Value)) (cwV 0 hts (gV kw_8_138 kw_8_139 kw_8_140 kw_1_15 kw_8_141) rfl rfl rfl (by decide +kernel) ⟨Nat.le_of_ble_eq_true rfl, Nat.le_of_ble_eq_true rfl⟩) ⟨fun a U g mk q => by obtain ⟨q0, q1, qP, qK, qD⟩ := q; exact ⟨q0, q1, qP, va_K.moved (u := U) (U := U.calling g mk a) (Vm.Alike.refl U.vm) qK, qD⟩, va_recv hKc hPc (ci := 12) (q0 := 0) rfl rfl, fun U hU hW => ⟨rfl, by rw [hU], by rw [hU]; exact hPc, va_K.moved hW.alike hKc, hDc.weaken (fun _ _ _ _ => trivial)⟩⟩ rfl rfl hl.1 rfl (lv_room (Nat.le_of_ble_eq_true rfl)) dL_law_717 ⟨Nat.le_of_ble_eq_true rfl, Nat.le_of_ble_eq_true rfl⟩) hS (fun q _ h => hFc q h) hFc (fun r_3 u t H1 locs ht hvm hw hB hz1 hk1 hS => ?_)
  obtain ⟨hP, hD⟩ := va_join (wr := []) (w1 := []) hP hD [0] [] rfl rfl (by decide) (by decide) hk1 hFc (fun k q h => by simp at h) ⟨fun i j p q h => by simp at h, fun k q h => by simp at h⟩
  have hK := hK.sub (tys' := []) [] rfl
  generalize H1 = H at hP hS ⊢
  have hP : va_P (dC, dI) vwCl [] H := hP
  have hD : va_D A [] := hD
  have hK : va_K (dC, dI) vwCl [] s := hK
  subst hw
  refine lv_icmp_eq (tgt := 1042) hx hb dL_law_720 (by decide) (fun c_5 => ?_) (fun c_5 => ?_)
  rotate_left
  · exact (c_5 (by decide)).elim
  refine lv_iinc (v := 7) (lv' := [(4, .int 7), (0, .ref b), (1, .ref xX), (2, .ref yM), (3, .ref yO)]) hx hb dL_law_1042 hl (k := 4) rfl (by decide) (by decide) rfl (fun ls hl => ?_)
  refine lv_goto (tgt := 23) hx hb dL_law_1045 (by decide) ?_
  refine lv_iload hx hb dL_law_23 (lv_at hl 0 rfl) ?_
  refine lv_aload_n hx hb dL_law_25 rfl (lv_at hl 1 rfl) ?_
  refine va_slen hx hb hX hbl hbA hS dL_law_26 ?_
  refine my_ti (y := 7) (by rw [hL7]; rfl) ?_
  refine lv_bipush (v := 7) hx hb dL_law_27 (by decide) ?_
  refine lv_isub hx hb dL_law_29 ?_
  refine my_ti (y := 0) (by decide) ?_
  refine lv_icmp_gt (tgt := 1048) hx hb dL_law_30 (by decide) (fun c_6 => ?_) (fun c_6 => ?_)
  rotate_left
  · exact (c_6 (by decide)).elim
  refine lv_iconst (v := 1) hx hb dL_law_1048 (by decide) ?_
  refine va_forget (fun q hq => by have h9 := hS.2.2 q hq; rw [hAe] at h9; exact h9) ?_
  refine W.widen (k := 600002) (n := 7302232) (Nat.le_of_ble_eq_true rfl) (Nat.le_of_ble_eq_true rfl) ?_
  exact lw_ret hx hb hr hlocks dL_law_1049
set_option maxHeartbeats 4000000 in
set_option maxRecDepth 100000 in
theorem law_15 {p : Program} {e : Env} {s : State} {m : MethodId} {below : List Frame} {meth : Method} {c : Code} (l : Launch) {b L : Nat} {xs : Nat → Int32} (hL7 : L = 7) (C0 : lw_At p s m meth c b L xs) (dC : Nat → ClassId) (dI : Nat → Nat → Nat) (A : Nat → Prop) (hAe : A = fun q => s.heap.size ≤ q) (yO : Nat) (xX : Nat) (xT : Nat) (xW : Nat) (xR : Nat) (xM : Nat) (xS : Nat) (xRo : Nat) (xPe : Nat) (xWh : Nat) (xTr : Nat) (xCo : Nat) (xAl : Nat) (xNl : Nat) (xDr : Nat) (xFa : Nat) (vt1 : Value) (vt2 : Value) (vt3 : Value) (vt4 : Value) (vt5 : Value) (vt6 : Value) (vt7 : Value) (vt8 : Value) (yM : Nat) (yT : Nat) (yF : Nat) (vq5 : Value) (vq9 : Value) (vq10 : Value) (vq11 : Value) (vq12 : Value) (vq13 : Value) (vq14 : Value) (vq15 : Value) (vq16 : Value) (vq17 : Value) (vq18 : Value) (yC : Nat) (vq20 : Value) (vq21 : Value) (vq22 : Value) (vq23 : Value) (vq24 : Value) (vq25 : Value) (vq26 : Value) (vq27 : Value) (vq28 : Value) (vq29 : Value) (vq30 : Value) (vq31 : Value) (yL : Nat) (yD : Nat) (yB : Nat) (vq50 : Value) (vq51 : Value) (vq52 : Value) (vq53 : Value) (vq54 : Value) (vq55 : Value) (vq56 : Value) (vq57 : Value) (vq64 : Value) (vq65 : Value) (vq68 : Value) (vq69 : Value) (vq70 : Value) (vq71 : Value) (vq72 : Value) (vq73 : Value) (vq74 : Value) (vq75 : Value) (vq76 : Value) (vq77 : Value) (vq78 : Value) (vq79 : Value) (vq80 : Value) (vq81 : Value) (vq82 : Value) (vq83 : Value) (vq88 : Value) (vq90 : Value) (vq91 : Value) (vq92 : Value) (vq93 : Value) (vq94 : Value) (H : Heap) (locs : List Loc) (hK : va_K (dC, dI) vwCl [] s) (hP : va_P (dC, dI) vwCl [(xX, .inr (11, [.ref xT, .int 0, .ref xW, .ref xR, .ref xM, .ref xS, .int (-1), .int 0, .int (-1)])), (xW, .inr (7, [.ref xRo, .ref xPe, .ref xWh, .ref xTr, .ref xCo, .int 0, .ref xAl, .ref xNl, .ref xDr, .int 0, .ref xFa, .int 0, .int 0, .int 0])), (xTr, .inr (8, [.int 0, vt1, vt2, vt3, vt4, vt5, vt6, vt7, vt8])), (yM, .inr (12, [.int 0, .ref yT, .int 0, .int 0, .ref yF, vq5, .int 0, .int 0, .int 0, vq9, vq10, vq11, vq12, vq13, vq14, vq15, vq16, vq17, vq18, .ref yC, vq20, vq21, vq22, vq23, vq24, vq25, vq26, vq27, vq28, vq29, vq30, vq31, .int 0, .int 0, .int 0, .int 0, .int 0, .int 0, .int 0, .int 0, .int 0, .int 0, .int 0, .int 0, .int 0, .int 0, .long 0, .ref yL, .ref yD, .ref yB, vq50, vq51, vq52, vq53, vq54, vq55, vq56, vq57, .int 0, .int 0, .int 0, .int 0, .int 0, .int 0, vq64, vq65, .int (-1), .int (-1), vq68, vq69, vq70, vq71, vq72, vq73, vq74, vq75, vq76, vq77, vq78, vq79, vq80, vq81, vq82, vq83, .int 0, .int 0, .int (-1), .int 0, vq88, .int 0, vq90, vq91, vq92, vq93, vq94, .int 0]))] H) (hD : va_D A [(xX, .inr (11, [.ref xT, .int 0, .ref xW, .ref xR, .ref xM, .ref xS, .int (-1), .int 0, .int (-1)])), (xW, .inr (7, [.ref xRo, .ref xPe, .ref xWh, .ref xTr, .ref xCo, .int 0, .ref xAl, .ref xNl, .ref xDr, .int 0, .ref xFa, .int 0, .int 0, .int 0])), (xTr, .inr (8, [.int 0, vt1, vt2, vt3, vt4, vt5, vt6, vt7, vt8])), (yM, .inr (12, [.int 0, .ref yT, .int 0, .int 0, .ref yF, vq5, .int 0, .int 0, .int 0, vq9, vq10, vq11, vq12, vq13, vq14, vq15, vq16, vq17, vq18, .ref yC, vq20, vq21, vq22, vq23, vq24, vq25, vq26, vq27, vq28, vq29, vq30, vq31, .int 0, .int 0, .int 0, .int 0, .int 0, .int 0, .int 0, .int 0, .int 0, .int 0, .int 0, .int 0, .int 0, .int 0, .long 0, .ref yL, .ref yD, .ref yB, vq50, vq51, vq52, vq53, vq54, vq55, vq56, vq57, .int 0, .int 0, .int 0, .int 0, .int 0, .int 0, vq64, vq65, .int (-1), .int (-1), vq68, vq69, vq70, vq71, vq72, vq73, vq74, vq75, vq76, vq77, vq78, vq79, vq80, vq81, vq82, vq83, .int 0, .int 0, .int (-1), .int 0, vq88, .int 0, vq90, vq91, vq92, vq93, vq94, .int 0]))]) (hS : va_S A s.heap H locs) (ls : Array Slot) (hl : lv_has ls 7 [(0, .ref b), (1, .ref xX), (2, .ref yM), (3, .ref yO), (4, .int 0)]) : W p l e room_1 s m #[Value.ref b] below meth c H locs 156 13846 (lw_Z below #[Value.ref b] s) (F0 m 725 ls []) := by
  obtain ⟨hx, hb, hr, hml, hown, hts0, hX, hbl, hlocks, hgv⟩ := id C0
  have hb : c.code = cL_law := hb
  have hown : s.vm.findClass RL = some m.cls := hown
  have hts : ∀ w ∈ (.initialized RL :: lw_good : List Cond), w.before #[Value.ref b] s = true := fun w h => (List.mem_cons.mp h).elim (fun q => by rw [q]; exact hts0 _ (lwgT kw_1_0)) (fun q => hts0 w (lwgT q))
  have hA : ∀ q : Nat, s.heap.size ≤ q → A q := fun q h => by rw [hAe]; exact h
  have hbA : ¬ A b := by rw [hAe]; exact Nat.not_le.mpr hbl
  refine lv_aload_n hx hb dL_law_725 rfl (lv_at hl 1 rfl) ?_
  refine lv_aload_n hx hb dL_law_726 rfl (lv_at hl 0 rfl) ?_
  refine lv_iload hx hb dL_law_727 (lv_at hl 4 rfl) ?_
  refine lv_iconst (v := 1) hx hb dL_law_729 (by decide) ?_
  refine lv_iadd hx hb dL_law_730 ?_
  refine my_ti (y := 1) (by decide) ?_
  refine va_sld hx hb hX hbl hbA hS (by rw [hL7]; unfold vp_in; decide) dL_law_731 ?_
  refine lv_topi (fun v_1 ev_1 => ?_)
  refine lv_aload_n hx hb dL_law_732 rfl (lv_at hl 0 rfl) ?_
  refine lv_iload hx hb dL_law_733 (lv_at hl 4 rfl) ?_
  refine lv_iconst (v := 2) hx hb dL_law_735 (by decide) ?_
  refine lv_iadd hx hb dL_law_736 ?_
  refine my_ti (y := 2) (by decide) ?_
  refine va_sld hx hb hX hbl hbA hS (by rw [hL7]; unfold vp_in; decide) dL_law_737 ?_
  refine lv_topi (fun v_2 ev_2 => ?_)
  refine lv_aload_n hx hb dL_law_738 rfl (lv_at hl 0 rfl) ?_
  refine lv_iload hx hb dL_law_739 (lv_at hl 4 rfl) ?_
  refine lv_iconst (v := 3) hx hb dL_law_741 (by decide) ?_
  refine lv_iadd hx hb dL_law_742 ?_
  refine my_ti (y := 3) (by decide) ?_
  refine va_sld hx hb hX hbl hbA hS (by rw [hL7]; unfold vp_in; decide) dL_law_743 ?_
  refine lv_topi (fun v_3 ev_3 => ?_)
  refine lv_aload_n hx hb dL_law_744 rfl (lv_at hl 0 rfl) ?_
  refine lv_iload hx hb dL_law_745 (lv_at hl 4 rfl) ?_
  refine lv_iconst (v := 4) hx hb dL_law_747 (by decide) ?_
  refine lv_iadd hx hb dL_law_748 ?_
  refine my_ti (y := 4) (by decide) ?_
  refine va_sld hx hb hX hbl hbA hS (by rw [hL7]; unfold vp_in; decide) dL_law_749 ?_
  refine lv_topi (fun v_4 ev_4 => ?_)
  have hPc := hP.sub (ws' := [(xX, .inr (11, [.ref xT, .int 0, .ref xW, .ref xR, .ref xM, .ref xS, .int (-1), .int 0, .int (-1)])), (xW, .inr (7, [.ref xRo, .ref xPe, .ref xWh, .ref xTr, .ref xCo, .int 0, .ref xAl, .ref xNl, .ref xDr, .int 0, .ref xFa, .int 0, .int 0, .int 0])), (xTr, .inr (8, [.int 0, vt1, vt2, vt3, vt4, vt5, vt6, vt7, vt8]))]) [0, 1, 2] rfl
  have hDc := hD.sub (ws' := [(xX, .inr (11, [.ref xT, .int 0, .ref xW, .ref xR, .ref xM, .ref xS, .int (-1), .int 0, .int (-1)])), (xW, .inr (7, [.ref xRo, .ref xPe, .ref xWh, .ref xTr, .ref xCo, .int 0, .ref xAl, .ref xNl, .ref xDr, .int 0, .ref xFa, .int 0, .int 0, .int 0])), (xTr, .inr (8, [.int 0, vt1, vt2, vt3, vt4, vt5, vt6, vt7, vt8]))]) [0, 1, 2] (by decide) rfl
  have hKc := hK.sub (tys' := []) [] rfl
  have hFc := va_free (wc := [(xX, .inr (11, [.ref xT, .int 0, .ref xW, .ref xR, .ref xM, .ref xS, .int (-1), .int 0, .int (-1)])), (xW, .inr (7, [.ref xRo, .ref xPe, .ref xWh, .ref xTr, .ref xCo, .int 0, .ref xAl, .ref xNl, .ref xDr, .int 0, .ref xFa, .int 0, .int 0, .int 0])), (xTr, .inr (8, [.int 0, vt1, vt2, vt3, vt4, vt5, vt6, vt7, vt8]))]) hD hS hA [0, 1, 2] rfl
  refine va_calli (va_runV (As := [.int v_1, .int v_2, .int v_3, .int v_4]) (rest := []) ⟨hx, hb, hml, hown, hts⟩ (x_told l dC dI H.size v_1 v_2 v_3 v_4 xX xT xW xR xM xS xRo xPe xWh xTr xCo xAl xNl xDr xFa (vt1 : Value) (vt2 : Value) (vt3 : Value) (vt4 : Value) (vt5 : Value) (vt6 : Value) (vt7 : Value) (vt8 : Value)) (cwV 4 hts (gV kw_4_233 kw_4_234 kw_4_235 kw_1_1 kw_4_236) rfl rfl rfl (by decide +kernel) ⟨Nat.le_of_ble_eq_true rfl, Nat.le_of_ble_eq_true rfl⟩) ⟨fun a U g mk q => by obtain ⟨q0, q1, qP, qK, qD⟩ := q; exact ⟨q0, q1, qP, va_K.moved (u := U) (U := U.calling g mk a) (Vm.Alike.refl U.vm) qK, qD⟩, va_recv hKc hPc (ci := 11) (q0 := 0) rfl rfl, fun U hU hW => ⟨rfl, by rw [hU], by rw [hU]; exact hPc, va_K.moved hW.alike hKc, hDc.weaken (fun _ _ _ _ => trivial)⟩⟩ rfl rfl hl.1 rfl (lv_room (Nat.le_of_ble_eq_true rfl)) dL_law_750 ⟨Nat.le_of_ble_eq_true rfl, Nat.le_of_ble_eq_true rfl⟩) hS (fun q _ h => hFc q h) hFc (fun r_5 u t H1 locs ht hvm hw hB hz1 hk1 hS => ?_)
  obtain ⟨hP, hD⟩ := va_join (wr := [(yM, .inr (12, [.int 0, .ref yT, .int 0, .int 0, .ref yF, vq5, .int 0, .int 0, .int 0, vq9, vq10, vq11, vq12, vq13, vq14, vq15, vq16, vq17, vq18, .ref yC, vq20, vq21, vq22, vq23, vq24, vq25, vq26, vq27, vq28, vq29, vq30, vq31, .int 0, .int 0, .int 0, .int 0, .int 0, .int 0, .int 0, .int 0, .int 0, .int 0, .int 0, .int 0, .int 0, .int 0, .long 0, .ref yL, .ref yD, .ref yB, vq50, vq51, vq52, vq53, vq54, vq55, vq56, vq57, .int 0, .int 0, .int 0, .int 0, .int 0, .int 0, vq64, vq65, .int (-1), .int (-1), vq68, vq69, vq70, vq71, vq72, vq73, vq74, vq75, vq76, vq77, vq78, vq79, vq80, vq81, vq82, vq83, .int 0, .int 0, .int (-1), .int 0, vq88, .int 0, vq90, vq91, vq92, vq93, vq94, .int 0]))]) (w1 := []) hP hD [0, 1, 2] [3] rfl rfl (by decide) (by decide) hk1 hFc (fun k q h => by simp at h) ⟨fun i j p q h => by simp at h, fun k q h => by simp at h⟩
  have hK := hK.sub (tys' := []) [] rfl
  generalize H1 = H at hP hS ⊢
  have hP : va_P (dC, dI) vwCl [(yM, .inr (12, [.int 0, .ref yT, .int 0, .int 0, .ref yF, vq5, .int 0, .int 0, .int 0, vq9, vq10, vq11, vq12, vq13, vq14, vq15, vq16, vq17, vq18, .ref yC, vq20, vq21, vq22, vq23, vq24, vq25, vq26, vq27, vq28, vq29, vq30, vq31, .int 0, .int 0, .int 0, .int 0, .int 0, .int 0, .int 0, .int 0, .int 0, .int 0, .int 0, .int 0, .int 0, .int 0, .long 0, .ref yL, .ref yD, .ref yB, vq50, vq51, vq52, vq53, vq54, vq55, vq56, vq57, .int 0, .int 0, .int 0, .int 0, .int 0, .int 0, vq64, vq65, .int (-1), .int (-1), vq68, vq69, vq70, vq71, vq72, vq73, vq74, vq75, vq76, vq77, vq78, vq79, vq80, vq81, vq82, vq83, .int 0, .int 0, .int (-1), .int 0, vq88, .int 0, vq90, vq91, vq92, vq93, vq94, .int 0]))] H := hP
  have hD : va_D A [(yM, .inr (12, [.int 0, .ref yT, .int 0, .int 0, .ref yF, vq5, .int 0, .int 0, .int 0, vq9, vq10, vq11, vq12, vq13, vq14, vq15, vq16, vq17, vq18, .ref yC, vq20, vq21, vq22, vq23, vq24, vq25, vq26, vq27, vq28, vq29, vq30, vq31, .int 0, .int 0, .int 0, .int 0, .int 0, .int 0, .int 0, .int 0, .int 0, .int 0, .int 0, .int 0, .int 0, .int 0, .long 0, .ref yL, .ref yD, .ref yB, vq50, vq51, vq52, vq53, vq54, vq55, vq56, vq57, .int 0, .int 0, .int 0, .int 0, .int 0, .int 0, vq64, vq65, .int (-1), .int (-1), vq68, vq69, vq70, vq71, vq72, vq73, vq74, vq75, vq76, vq77, vq78, vq79, vq80, vq81, vq82, vq83, .int 0, .int 0, .int (-1), .int 0, vq88, .int 0, vq90, vq91, vq92, vq93, vq94, .int 0]))] := hD
  have hK : va_K (dC, dI) vwCl [] s := hK
  subst hw
  refine lv_aload_n hx hb dL_law_753 rfl (lv_at hl 2 rfl) ?_
  refine lv_aload_n hx hb dL_law_754 rfl (lv_at hl 0 rfl) ?_
  refine lv_iload hx hb dL_law_755 (lv_at hl 4 rfl) ?_
  refine lv_iconst (v := 1) hx hb dL_law_757 (by decide) ?_
  refine lv_iadd hx hb dL_law_758 ?_
  refine my_ti (y := 1) (by decide) ?_
  refine va_sld hx hb hX hbl hbA hS (by rw [hL7]; unfold vp_in; decide) dL_law_759 ?_
  refine lv_topi (fun v_7 ev_7 => ?_)
  refine lv_aload_n hx hb dL_law_760 rfl (lv_at hl 0 rfl) ?_
  refine lv_iload hx hb dL_law_761 (lv_at hl 4 rfl) ?_
  refine lv_iconst (v := 2) hx hb dL_law_763 (by decide) ?_
  refine lv_iadd hx hb dL_law_764 ?_
  refine my_ti (y := 2) (by decide) ?_
  refine va_sld hx hb hX hbl hbA hS (by rw [hL7]; unfold vp_in; decide) dL_law_765 ?_
  refine lv_topi (fun v_8 ev_8 => ?_)
  refine lv_aload_n hx hb dL_law_766 rfl (lv_at hl 0 rfl) ?_
  refine lv_iload hx hb dL_law_767 (lv_at hl 4 rfl) ?_
  refine lv_iconst (v := 3) hx hb dL_law_769 (by decide) ?_
  refine lv_iadd hx hb dL_law_770 ?_
  refine my_ti (y := 3) (by decide) ?_
  refine va_sld hx hb hX hbl hbA hS (by rw [hL7]; unfold vp_in; decide) dL_law_771 ?_
  refine lv_topi (fun v_9 ev_9 => ?_)
  refine lv_aload_n hx hb dL_law_772 rfl (lv_at hl 0 rfl) ?_
  refine lv_iload hx hb dL_law_773 (lv_at hl 4 rfl) ?_
  refine lv_iconst (v := 4) hx hb dL_law_775 (by decide) ?_
  refine lv_iadd hx hb dL_law_776 ?_
  refine my_ti (y := 4) (by decide) ?_
  refine va_sld hx hb hX hbl hbA hS (by rw [hL7]; unfold vp_in; decide) dL_law_777 ?_
  refine lv_topi (fun v_10 ev_10 => ?_)
  have hPc := hP.sub (ws' := [(yM, .inr (12, [.int 0, .ref yT, .int 0, .int 0, .ref yF, vq5, .int 0, .int 0, .int 0, vq9, vq10, vq11, vq12, vq13, vq14, vq15, vq16, vq17, vq18, .ref yC, vq20, vq21, vq22, vq23, vq24, vq25, vq26, vq27, vq28, vq29, vq30, vq31, .int 0, .int 0, .int 0, .int 0, .int 0, .int 0, .int 0, .int 0, .int 0, .int 0, .int 0, .int 0, .int 0, .int 0, .long 0, .ref yL, .ref yD, .ref yB, vq50, vq51, vq52, vq53, vq54, vq55, vq56, vq57, .int 0, .int 0, .int 0, .int 0, .int 0, .int 0, vq64, vq65, .int (-1), .int (-1), vq68, vq69, vq70, vq71, vq72, vq73, vq74, vq75, vq76, vq77, vq78, vq79, vq80, vq81, vq82, vq83, .int 0, .int 0, .int (-1), .int 0, vq88, .int 0, vq90, vq91, vq92, vq93, vq94, .int 0]))]) [0] rfl
  have hDc := hD.sub (ws' := [(yM, .inr (12, [.int 0, .ref yT, .int 0, .int 0, .ref yF, vq5, .int 0, .int 0, .int 0, vq9, vq10, vq11, vq12, vq13, vq14, vq15, vq16, vq17, vq18, .ref yC, vq20, vq21, vq22, vq23, vq24, vq25, vq26, vq27, vq28, vq29, vq30, vq31, .int 0, .int 0, .int 0, .int 0, .int 0, .int 0, .int 0, .int 0, .int 0, .int 0, .int 0, .int 0, .int 0, .int 0, .long 0, .ref yL, .ref yD, .ref yB, vq50, vq51, vq52, vq53, vq54, vq55, vq56, vq57, .int 0, .int 0, .int 0, .int 0, .int 0, .int 0, vq64, vq65, .int (-1), .int (-1), vq68, vq69, vq70, vq71, vq72, vq73, vq74, vq75, vq76, vq77, vq78, vq79, vq80, vq81, vq82, vq83, .int 0, .int 0, .int (-1), .int 0, vq88, .int 0, vq90, vq91, vq92, vq93, vq94, .int 0]))]) [0] (by decide) rfl
  have hKc := hK.sub (tys' := []) [] rfl
  have hFc := va_free (wc := [(yM, .inr (12, [.int 0, .ref yT, .int 0, .int 0, .ref yF, vq5, .int 0, .int 0, .int 0, vq9, vq10, vq11, vq12, vq13, vq14, vq15, vq16, vq17, vq18, .ref yC, vq20, vq21, vq22, vq23, vq24, vq25, vq26, vq27, vq28, vq29, vq30, vq31, .int 0, .int 0, .int 0, .int 0, .int 0, .int 0, .int 0, .int 0, .int 0, .int 0, .int 0, .int 0, .int 0, .int 0, .long 0, .ref yL, .ref yD, .ref yB, vq50, vq51, vq52, vq53, vq54, vq55, vq56, vq57, .int 0, .int 0, .int 0, .int 0, .int 0, .int 0, vq64, vq65, .int (-1), .int (-1), vq68, vq69, vq70, vq71, vq72, vq73, vq74, vq75, vq76, vq77, vq78, vq79, vq80, vq81, vq82, vq83, .int 0, .int 0, .int (-1), .int 0, vq88, .int 0, vq90, vq91, vq92, vq93, vq94, .int 0]))]) hD hS hA [0] rfl
  refine va_calli (va_runV (As := [.int v_7, .int v_8, .int v_9, .int v_10]) (rest := [.int (-1)]) ⟨hx, hb, hml, hown, hts⟩ (m_told l dC dI H.size v_7 v_8 v_9 v_10 yM yT yF (vq5 : Value) (vq9 : Value) (vq10 : Value) (vq11 : Value) (vq12 : Value) (vq13 : Value) (vq14 : Value) (vq15 : Value) (vq16 : Value) (vq17 : Value) (vq18 : Value) yC (vq20 : Value) (vq21 : Value) (vq22 : Value) (vq23 : Value) (vq24 : Value) (vq25 : Value) (vq26 : Value) (vq27 : Value) (vq28 : Value) (vq29 : Value) (vq30 : Value) (vq31 : Value) yL yD yB (vq50 : Value) (vq51 : Value) (vq52 : Value) (vq53 : Value) (vq54 : Value) (vq55 : Value) (vq56 : Value) (vq57 : Value) (vq64 : Value) (vq65 : Value) (vq68 : Value) (vq69 : Value) (vq70 : Value) (vq71 : Value) (vq72 : Value) (vq73 : Value) (vq74 : Value) (vq75 : Value) (vq76 : Value) (vq77 : Value) (vq78 : Value) (vq79 : Value) (vq80 : Value) (vq81 : Value) (vq82 : Value) (vq83 : Value) (vq88 : Value) (vq90 : Value) (vq91 : Value) (vq92 : Value) (vq93 : Value) (vq94 : Value)) (cwV 4 hts (gV kw_8_142 kw_8_143 kw_8_144 kw_1_15 kw_8_145) rfl rfl rfl (by decide +kernel) ⟨Nat.le_of_ble_eq_true rfl, Nat.le_of_ble_eq_true rfl⟩) ⟨fun a U g mk q => by obtain ⟨q0, q1, qP, qK, qD⟩ := q; exact ⟨q0, q1, qP, va_K.moved (u := U) (U := U.calling g mk a) (Vm.Alike.refl U.vm) qK, qD⟩, va_recv hKc hPc (ci := 12) (q0 := 0) rfl rfl, fun U hU hW => ⟨rfl, by rw [hU], by rw [hU]; exact hPc, va_K.moved hW.alike hKc, hDc.weaken (fun _ _ _ _ => trivial)⟩⟩ rfl rfl hl.1 rfl (lv_room (Nat.le_of_ble_eq_true rfl)) dL_law_778 ⟨Nat.le_of_ble_eq_true rfl, Nat.le_of_ble_eq_true rfl⟩) hS (fun q _ h => hFc q h) hFc (fun r_11 u t H1 locs ht hvm hw hB hz1 hk1 hS => ?_)
  obtain ⟨hP, hD⟩ := va_join (wr := []) (w1 := []) hP hD [0] [] rfl rfl (by decide) (by decide) hk1 hFc (fun k q h => by simp at h) ⟨fun i j p q h => by simp at h, fun k q h => by simp at h⟩
  have hK := hK.sub (tys' := []) [] rfl
  generalize H1 = H at hP hS ⊢
  have hP : va_P (dC, dI) vwCl [] H := hP
  have hD : va_D A [] := hD
  have hK : va_K (dC, dI) vwCl [] s := hK
  subst hw
  refine lv_icmp_eq (tgt := 1042) hx hb dL_law_781 (by decide) (fun c_13 => ?_) (fun c_13 => ?_)
  rotate_left
  · exact (c_13 (by decide)).elim
  refine lv_iinc (v := 7) (lv' := [(4, .int 7), (0, .ref b), (1, .ref xX), (2, .ref yM), (3, .ref yO)]) hx hb dL_law_1042 hl (k := 4) rfl (by decide) (by decide) rfl (fun ls hl => ?_)
  refine lv_goto (tgt := 23) hx hb dL_law_1045 (by decide) ?_
  refine lv_iload hx hb dL_law_23 (lv_at hl 0 rfl) ?_
  refine lv_aload_n hx hb dL_law_25 rfl (lv_at hl 1 rfl) ?_
  refine va_slen hx hb hX hbl hbA hS dL_law_26 ?_
  refine my_ti (y := 7) (by rw [hL7]; rfl) ?_
  refine lv_bipush (v := 7) hx hb dL_law_27 (by decide) ?_
  refine lv_isub hx hb dL_law_29 ?_
  refine my_ti (y := 0) (by decide) ?_
  refine lv_icmp_gt (tgt := 1048) hx hb dL_law_30 (by decide) (fun c_14 => ?_) (fun c_14 => ?_)
  rotate_left
  · exact (c_14 (by decide)).elim
  refine lv_iconst (v := 1) hx hb dL_law_1048 (by decide) ?_
  refine va_forget (fun q hq => by have h9 := hS.2.2 q hq; rw [hAe] at h9; exact h9) ?_
  refine W.widen (k := 600002) (n := 7302232) (Nat.le_of_ble_eq_true rfl) (Nat.le_of_ble_eq_true rfl) ?_
  exact lw_ret hx hb hr hlocks dL_law_1049
set_option maxHeartbeats 4000000 in
set_option maxRecDepth 100000 in
theorem law_16 {p : Program} {e : Env} {s : State} {m : MethodId} {below : List Frame} {meth : Method} {c : Code} (l : Launch) {b L : Nat} {xs : Nat → Int32} (hL7 : L = 7) (C0 : lw_At p s m meth c b L xs) (dC : Nat → ClassId) (dI : Nat → Nat → Nat) (A : Nat → Prop) (hAe : A = fun q => s.heap.size ≤ q) (yO : Nat) (xX : Nat) (xT : Nat) (xW : Nat) (xR : Nat) (xM : Nat) (xS : Nat) (yM : Nat) (yT : Nat) (yF : Nat) (vq5 : Value) (vq9 : Value) (vq10 : Value) (vq11 : Value) (vq12 : Value) (vq13 : Value) (vq14 : Value) (vq15 : Value) (vq16 : Value) (vq17 : Value) (vq18 : Value) (yC : Nat) (vq20 : Value) (vq21 : Value) (vq22 : Value) (vq23 : Value) (vq24 : Value) (vq25 : Value) (vq26 : Value) (vq27 : Value) (vq28 : Value) (vq29 : Value) (vq30 : Value) (vq31 : Value) (yL : Nat) (yD : Nat) (yB : Nat) (vq50 : Value) (vq51 : Value) (vq52 : Value) (vq53 : Value) (vq54 : Value) (vq55 : Value) (vq56 : Value) (vq57 : Value) (vq64 : Value) (vq65 : Value) (vq68 : Value) (vq69 : Value) (vq70 : Value) (vq71 : Value) (vq72 : Value) (vq73 : Value) (vq74 : Value) (vq75 : Value) (vq76 : Value) (vq77 : Value) (vq78 : Value) (vq79 : Value) (vq80 : Value) (vq81 : Value) (vq82 : Value) (vq83 : Value) (vq88 : Value) (vq90 : Value) (vq91 : Value) (vq92 : Value) (vq93 : Value) (vq94 : Value) (H : Heap) (locs : List Loc) (hK : va_K (dC, dI) vwCl [] s) (hP : va_P (dC, dI) vwCl [(xX, .inr (11, [.ref xT, .int 0, .ref xW, .ref xR, .ref xM, .ref xS, .int (-1), .int 0, .int (-1)])), (yM, .inr (12, [.int 0, .ref yT, .int 0, .int 0, .ref yF, vq5, .int 0, .int 0, .int 0, vq9, vq10, vq11, vq12, vq13, vq14, vq15, vq16, vq17, vq18, .ref yC, vq20, vq21, vq22, vq23, vq24, vq25, vq26, vq27, vq28, vq29, vq30, vq31, .int 0, .int 0, .int 0, .int 0, .int 0, .int 0, .int 0, .int 0, .int 0, .int 0, .int 0, .int 0, .int 0, .int 0, .long 0, .ref yL, .ref yD, .ref yB, vq50, vq51, vq52, vq53, vq54, vq55, vq56, vq57, .int 0, .int 0, .int 0, .int 0, .int 0, .int 0, vq64, vq65, .int (-1), .int (-1), vq68, vq69, vq70, vq71, vq72, vq73, vq74, vq75, vq76, vq77, vq78, vq79, vq80, vq81, vq82, vq83, .int 0, .int 0, .int (-1), .int 0, vq88, .int 0, vq90, vq91, vq92, vq93, vq94, .int 0]))] H) (hD : va_D A [(xX, .inr (11, [.ref xT, .int 0, .ref xW, .ref xR, .ref xM, .ref xS, .int (-1), .int 0, .int (-1)])), (yM, .inr (12, [.int 0, .ref yT, .int 0, .int 0, .ref yF, vq5, .int 0, .int 0, .int 0, vq9, vq10, vq11, vq12, vq13, vq14, vq15, vq16, vq17, vq18, .ref yC, vq20, vq21, vq22, vq23, vq24, vq25, vq26, vq27, vq28, vq29, vq30, vq31, .int 0, .int 0, .int 0, .int 0, .int 0, .int 0, .int 0, .int 0, .int 0, .int 0, .int 0, .int 0, .int 0, .int 0, .long 0, .ref yL, .ref yD, .ref yB, vq50, vq51, vq52, vq53, vq54, vq55, vq56, vq57, .int 0, .int 0, .int 0, .int 0, .int 0, .int 0, vq64, vq65, .int (-1), .int (-1), vq68, vq69, vq70, vq71, vq72, vq73, vq74, vq75, vq76, vq77, vq78, vq79, vq80, vq81, vq82, vq83, .int 0, .int 0, .int (-1), .int 0, vq88, .int 0, vq90, vq91, vq92, vq93, vq94, .int 0]))]) (hS : va_S A s.heap H locs) (ls : Array Slot) (hl : lv_has ls 7 [(0, .ref b), (1, .ref xX), (2, .ref yM), (3, .ref yO), (4, .int 0)]) : W p l e room_1 s m #[Value.ref b] below meth c H locs 156 13846 (lw_Z below #[Value.ref b] s) (F0 m 786 ls []) := by
  obtain ⟨hx, hb, hr, hml, hown, hts0, hX, hbl, hlocks, hgv⟩ := id C0
  have hb : c.code = cL_law := hb
  have hown : s.vm.findClass RL = some m.cls := hown
  have hts : ∀ w ∈ (.initialized RL :: lw_good : List Cond), w.before #[Value.ref b] s = true := fun w h => (List.mem_cons.mp h).elim (fun q => by rw [q]; exact hts0 _ (lwgT kw_1_0)) (fun q => hts0 w (lwgT q))
  have hA : ∀ q : Nat, s.heap.size ≤ q → A q := fun q h => by rw [hAe]; exact h
  have hbA : ¬ A b := by rw [hAe]; exact Nat.not_le.mpr hbl
  refine lv_aload_n hx hb dL_law_786 rfl (lv_at hl 1 rfl) ?_
  have hPc := hP.sub (ws' := [(xX, .inr (11, [.ref xT, .int 0, .ref xW, .ref xR, .ref xM, .ref xS, .int (-1), .int 0, .int (-1)]))]) [0] rfl
  have hDc := hD.sub (ws' := [(xX, .inr (11, [.ref xT, .int 0, .ref xW, .ref xR, .ref xM, .ref xS, .int (-1), .int 0, .int (-1)]))]) [0] (by decide) rfl
  have hKc := hK.sub (tys' := []) [] rfl
  have hFc := va_free (wc := [(xX, .inr (11, [.ref xT, .int 0, .ref xW, .ref xR, .ref xM, .ref xS, .int (-1), .int 0, .int (-1)]))]) hD hS hA [0] rfl
  refine va_calli (va_runV (As := []) (rest := []) ⟨hx, hb, hml, hown, hts⟩ (x_why l dC dI H.size xX xT xW xR xM xS) (cwV 0 hts (gV kw_5_38 kw_5_39 kw_5_40 kw_1_1 kw_5_41) rfl rfl rfl (by decide +kernel) ⟨Nat.le_of_ble_eq_true rfl, Nat.le_of_ble_eq_true rfl⟩) ⟨fun a U g mk q => by obtain ⟨q0, q1, qP, qK, qD⟩ := q; exact ⟨q0, q1, qP, va_K.moved (u := U) (U := U.calling g mk a) (Vm.Alike.refl U.vm) qK, qD⟩, va_recv hKc hPc (ci := 11) (q0 := 0) rfl rfl, fun U hU hW => ⟨rfl, by rw [hU], by rw [hU]; exact hPc, va_K.moved hW.alike hKc, hDc.weaken (fun _ _ _ _ => trivial)⟩⟩ rfl rfl hl.1 rfl (lv_room (Nat.le_of_ble_eq_true rfl)) dL_law_787 ⟨Nat.le_of_ble_eq_true rfl, Nat.le_of_ble_eq_true rfl⟩) hS (fun q _ h => hFc q h) hFc (fun r_1 u t H1 locs ht hvm hw hB hz1 hk1 hS => ?_)
  obtain ⟨hP, hD⟩ := va_join (wr := [(yM, .inr (12, [.int 0, .ref yT, .int 0, .int 0, .ref yF, vq5, .int 0, .int 0, .int 0, vq9, vq10, vq11, vq12, vq13, vq14, vq15, vq16, vq17, vq18, .ref yC, vq20, vq21, vq22, vq23, vq24, vq25, vq26, vq27, vq28, vq29, vq30, vq31, .int 0, .int 0, .int 0, .int 0, .int 0, .int 0, .int 0, .int 0, .int 0, .int 0, .int 0, .int 0, .int 0, .int 0, .long 0, .ref yL, .ref yD, .ref yB, vq50, vq51, vq52, vq53, vq54, vq55, vq56, vq57, .int 0, .int 0, .int 0, .int 0, .int 0, .int 0, vq64, vq65, .int (-1), .int (-1), vq68, vq69, vq70, vq71, vq72, vq73, vq74, vq75, vq76, vq77, vq78, vq79, vq80, vq81, vq82, vq83, .int 0, .int 0, .int (-1), .int 0, vq88, .int 0, vq90, vq91, vq92, vq93, vq94, .int 0]))]) (w1 := []) hP hD [0] [1] rfl rfl (by decide) (by decide) hk1 hFc (fun k q h => by simp at h) ⟨fun i j p q h => by simp at h, fun k q h => by simp at h⟩
  have hK := hK.sub (tys' := []) [] rfl
  generalize H1 = H at hP hS ⊢
  have hP : va_P (dC, dI) vwCl [(yM, .inr (12, [.int 0, .ref yT, .int 0, .int 0, .ref yF, vq5, .int 0, .int 0, .int 0, vq9, vq10, vq11, vq12, vq13, vq14, vq15, vq16, vq17, vq18, .ref yC, vq20, vq21, vq22, vq23, vq24, vq25, vq26, vq27, vq28, vq29, vq30, vq31, .int 0, .int 0, .int 0, .int 0, .int 0, .int 0, .int 0, .int 0, .int 0, .int 0, .int 0, .int 0, .int 0, .int 0, .long 0, .ref yL, .ref yD, .ref yB, vq50, vq51, vq52, vq53, vq54, vq55, vq56, vq57, .int 0, .int 0, .int 0, .int 0, .int 0, .int 0, vq64, vq65, .int (-1), .int (-1), vq68, vq69, vq70, vq71, vq72, vq73, vq74, vq75, vq76, vq77, vq78, vq79, vq80, vq81, vq82, vq83, .int 0, .int 0, .int (-1), .int 0, vq88, .int 0, vq90, vq91, vq92, vq93, vq94, .int 0]))] H := hP
  have hD : va_D A [(yM, .inr (12, [.int 0, .ref yT, .int 0, .int 0, .ref yF, vq5, .int 0, .int 0, .int 0, vq9, vq10, vq11, vq12, vq13, vq14, vq15, vq16, vq17, vq18, .ref yC, vq20, vq21, vq22, vq23, vq24, vq25, vq26, vq27, vq28, vq29, vq30, vq31, .int 0, .int 0, .int 0, .int 0, .int 0, .int 0, .int 0, .int 0, .int 0, .int 0, .int 0, .int 0, .int 0, .int 0, .long 0, .ref yL, .ref yD, .ref yB, vq50, vq51, vq52, vq53, vq54, vq55, vq56, vq57, .int 0, .int 0, .int 0, .int 0, .int 0, .int 0, vq64, vq65, .int (-1), .int (-1), vq68, vq69, vq70, vq71, vq72, vq73, vq74, vq75, vq76, vq77, vq78, vq79, vq80, vq81, vq82, vq83, .int 0, .int 0, .int (-1), .int 0, vq88, .int 0, vq90, vq91, vq92, vq93, vq94, .int 0]))] := hD
  have hK : va_K (dC, dI) vwCl [] s := hK
  subst hw
  refine lv_aload_n hx hb dL_law_790 rfl (lv_at hl 2 rfl) ?_
  have hPc := hP.sub (ws' := [(yM, .inr (12, [.int 0, .ref yT, .int 0, .int 0, .ref yF, vq5, .int 0, .int 0, .int 0, vq9, vq10, vq11, vq12, vq13, vq14, vq15, vq16, vq17, vq18, .ref yC, vq20, vq21, vq22, vq23, vq24, vq25, vq26, vq27, vq28, vq29, vq30, vq31, .int 0, .int 0, .int 0, .int 0, .int 0, .int 0, .int 0, .int 0, .int 0, .int 0, .int 0, .int 0, .int 0, .int 0, .long 0, .ref yL, .ref yD, .ref yB, vq50, vq51, vq52, vq53, vq54, vq55, vq56, vq57, .int 0, .int 0, .int 0, .int 0, .int 0, .int 0, vq64, vq65, .int (-1), .int (-1), vq68, vq69, vq70, vq71, vq72, vq73, vq74, vq75, vq76, vq77, vq78, vq79, vq80, vq81, vq82, vq83, .int 0, .int 0, .int (-1), .int 0, vq88, .int 0, vq90, vq91, vq92, vq93, vq94, .int 0]))]) [0] rfl
  have hDc := hD.sub (ws' := [(yM, .inr (12, [.int 0, .ref yT, .int 0, .int 0, .ref yF, vq5, .int 0, .int 0, .int 0, vq9, vq10, vq11, vq12, vq13, vq14, vq15, vq16, vq17, vq18, .ref yC, vq20, vq21, vq22, vq23, vq24, vq25, vq26, vq27, vq28, vq29, vq30, vq31, .int 0, .int 0, .int 0, .int 0, .int 0, .int 0, .int 0, .int 0, .int 0, .int 0, .int 0, .int 0, .int 0, .int 0, .long 0, .ref yL, .ref yD, .ref yB, vq50, vq51, vq52, vq53, vq54, vq55, vq56, vq57, .int 0, .int 0, .int 0, .int 0, .int 0, .int 0, vq64, vq65, .int (-1), .int (-1), vq68, vq69, vq70, vq71, vq72, vq73, vq74, vq75, vq76, vq77, vq78, vq79, vq80, vq81, vq82, vq83, .int 0, .int 0, .int (-1), .int 0, vq88, .int 0, vq90, vq91, vq92, vq93, vq94, .int 0]))]) [0] (by decide) rfl
  have hKc := hK.sub (tys' := []) [] rfl
  have hFc := va_free (wc := [(yM, .inr (12, [.int 0, .ref yT, .int 0, .int 0, .ref yF, vq5, .int 0, .int 0, .int 0, vq9, vq10, vq11, vq12, vq13, vq14, vq15, vq16, vq17, vq18, .ref yC, vq20, vq21, vq22, vq23, vq24, vq25, vq26, vq27, vq28, vq29, vq30, vq31, .int 0, .int 0, .int 0, .int 0, .int 0, .int 0, .int 0, .int 0, .int 0, .int 0, .int 0, .int 0, .int 0, .int 0, .long 0, .ref yL, .ref yD, .ref yB, vq50, vq51, vq52, vq53, vq54, vq55, vq56, vq57, .int 0, .int 0, .int 0, .int 0, .int 0, .int 0, vq64, vq65, .int (-1), .int (-1), vq68, vq69, vq70, vq71, vq72, vq73, vq74, vq75, vq76, vq77, vq78, vq79, vq80, vq81, vq82, vq83, .int 0, .int 0, .int (-1), .int 0, vq88, .int 0, vq90, vq91, vq92, vq93, vq94, .int 0]))]) hD hS hA [0] rfl
  refine va_calli (va_runV (As := []) (rest := [.int (-1)]) ⟨hx, hb, hml, hown, hts⟩ (m_why l dC dI H.size yM yT yF (vq5 : Value) (vq9 : Value) (vq10 : Value) (vq11 : Value) (vq12 : Value) (vq13 : Value) (vq14 : Value) (vq15 : Value) (vq16 : Value) (vq17 : Value) (vq18 : Value) yC (vq20 : Value) (vq21 : Value) (vq22 : Value) (vq23 : Value) (vq24 : Value) (vq25 : Value) (vq26 : Value) (vq27 : Value) (vq28 : Value) (vq29 : Value) (vq30 : Value) (vq31 : Value) yL yD yB (vq50 : Value) (vq51 : Value) (vq52 : Value) (vq53 : Value) (vq54 : Value) (vq55 : Value) (vq56 : Value) (vq57 : Value) (vq64 : Value) (vq65 : Value) (vq68 : Value) (vq69 : Value) (vq70 : Value) (vq71 : Value) (vq72 : Value) (vq73 : Value) (vq74 : Value) (vq75 : Value) (vq76 : Value) (vq77 : Value) (vq78 : Value) (vq79 : Value) (vq80 : Value) (vq81 : Value) (vq82 : Value) (vq83 : Value) (vq88 : Value) (vq90 : Value) (vq91 : Value) (vq92 : Value) (vq93 : Value) (vq94 : Value)) (cwV 0 hts (gV kw_8_165 kw_8_166 kw_8_167 kw_1_15 kw_8_168) rfl rfl rfl (by decide +kernel) ⟨Nat.le_of_ble_eq_true rfl, Nat.le_of_ble_eq_true rfl⟩) ⟨fun a U g mk q => by obtain ⟨q0, q1, qP, qK, qD⟩ := q; exact ⟨q0, q1, qP, va_K.moved (u := U) (U := U.calling g mk a) (Vm.Alike.refl U.vm) qK, qD⟩, va_recv hKc hPc (ci := 12) (q0 := 0) rfl rfl, fun U hU hW => ⟨rfl, by rw [hU], by rw [hU]; exact hPc, va_K.moved hW.alike hKc, hDc.weaken (fun _ _ _ _ => trivial)⟩⟩ rfl rfl hl.1 rfl (lv_room (Nat.le_of_ble_eq_true rfl)) dL_law_791 ⟨Nat.le_of_ble_eq_true rfl, Nat.le_of_ble_eq_true rfl⟩) hS (fun q _ h => hFc q h) hFc (fun r_3 u t H1 locs ht hvm hw hB hz1 hk1 hS => ?_)
  obtain ⟨hP, hD⟩ := va_join (wr := []) (w1 := []) hP hD [0] [] rfl rfl (by decide) (by decide) hk1 hFc (fun k q h => by simp at h) ⟨fun i j p q h => by simp at h, fun k q h => by simp at h⟩
  have hK := hK.sub (tys' := []) [] rfl
  generalize H1 = H at hP hS ⊢
  have hP : va_P (dC, dI) vwCl [] H := hP
  have hD : va_D A [] := hD
  have hK : va_K (dC, dI) vwCl [] s := hK
  subst hw
  refine lv_icmp_eq (tgt := 1042) hx hb dL_law_794 (by decide) (fun c_5 => ?_) (fun c_5 => ?_)
  rotate_left
  · exact (c_5 (by decide)).elim
  refine lv_iinc (v := 7) (lv' := [(4, .int 7), (0, .ref b), (1, .ref xX), (2, .ref yM), (3, .ref yO)]) hx hb dL_law_1042 hl (k := 4) rfl (by decide) (by decide) rfl (fun ls hl => ?_)
  refine lv_goto (tgt := 23) hx hb dL_law_1045 (by decide) ?_
  refine lv_iload hx hb dL_law_23 (lv_at hl 0 rfl) ?_
  refine lv_aload_n hx hb dL_law_25 rfl (lv_at hl 1 rfl) ?_
  refine va_slen hx hb hX hbl hbA hS dL_law_26 ?_
  refine my_ti (y := 7) (by rw [hL7]; rfl) ?_
  refine lv_bipush (v := 7) hx hb dL_law_27 (by decide) ?_
  refine lv_isub hx hb dL_law_29 ?_
  refine my_ti (y := 0) (by decide) ?_
  refine lv_icmp_gt (tgt := 1048) hx hb dL_law_30 (by decide) (fun c_6 => ?_) (fun c_6 => ?_)
  rotate_left
  · exact (c_6 (by decide)).elim
  refine lv_iconst (v := 1) hx hb dL_law_1048 (by decide) ?_
  refine va_forget (fun q hq => by have h9 := hS.2.2 q hq; rw [hAe] at h9; exact h9) ?_
  refine W.widen (k := 600002) (n := 7302232) (Nat.le_of_ble_eq_true rfl) (Nat.le_of_ble_eq_true rfl) ?_
  exact lw_ret hx hb hr hlocks dL_law_1049
set_option maxHeartbeats 4000000 in
set_option maxRecDepth 100000 in
theorem law_17 {p : Program} {e : Env} {s : State} {m : MethodId} {below : List Frame} {meth : Method} {c : Code} (l : Launch) {b L : Nat} {xs : Nat → Int32} (hL7 : L = 7) (C0 : lw_At p s m meth c b L xs) (dC : Nat → ClassId) (dI : Nat → Nat → Nat) (A : Nat → Prop) (hAe : A = fun q => s.heap.size ≤ q) (yO : Nat) (xX : Nat) (xT : Nat) (xW : Nat) (xR : Nat) (xM : Nat) (xS : Nat) (xRo : Nat) (xPe : Nat) (xWh : Nat) (xTr : Nat) (xCo : Nat) (xAl : Nat) (xNl : Nat) (xDr : Nat) (xFa : Nat) (xWy : Nat) (vm5 : Value) (vm6 : Value) (vm7 : Value) (vm8 : Value) (vm9 : Value) (vm10 : Value) (vm11 : Value) (vm12 : Value) (vm13 : Value) (vm14 : Value) (vm15 : Value) (vm16 : Value) (vm17 : Value) (xBu : Nat) (tD : Nat) (cBu : ClassId) (vp1 : Value) (vp2 : Value) (vp3 : Value) (vp4 : Value) (vp5 : Value) (vp6 : Value) (vp7 : Value) (vp8 : Value) (vp9 : Value) (vp10 : Value) (vp11 : Value) (vp12 : Value) (vp13 : Value) (vp14 : Value) (vh1 : Value) (vh2 : Value) (vh3 : Value) (vh4 : Value) (vh5 : Value) (vh6 : Value) (vh7 : Value) (vh8 : Value) (vt1 : Value) (vt2 : Value) (vt3 : Value) (vt4 : Value) (vt5 : Value) (vt6 : Value) (vt7 : Value) (vt8 : Value) (vy2 : Value) (vy3 : Value) (vy4 : Value) (vy5 : Value) (vy6 : Value) (vy7 : Value) (vy8 : Value) (xNk : Nat) (vn2 : Value) (vn3 : Value) (vn4 : Value) (vn5 : Value) (vn6 : Value) (cNk : ClassId) (yM : Nat) (yT : Nat) (yF : Nat) (vq5 : Value) (vq9 : Value) (vq10 : Value) (vq11 : Value) (vq12 : Value) (vq13 : Value) (vq14 : Value) (vq15 : Value) (vq16 : Value) (vq17 : Value) (vq18 : Value) (yC : Nat) (vq20 : Value) (vq21 : Value) (vq22 : Value) (vq23 : Value) (vq24 : Value) (vq25 : Value) (vq26 : Value) (vq27 : Value) (vq28 : Value) (vq29 : Value) (vq30 : Value) (vq31 : Value) (yL : Nat) (yD : Nat) (yB : Nat) (vq50 : Value) (vq51 : Value) (vq52 : Value) (vq53 : Value) (vq54 : Value) (vq55 : Value) (vq56 : Value) (vq57 : Value) (vq64 : Value) (vq65 : Value) (vq68 : Value) (vq69 : Value) (vq70 : Value) (vq71 : Value) (vq72 : Value) (vq73 : Value) (vq74 : Value) (vq75 : Value) (vq76 : Value) (vq77 : Value) (vq78 : Value) (vq79 : Value) (vq80 : Value) (vq81 : Value) (vq82 : Value) (vq83 : Value) (vq88 : Value) (vq90 : Value) (vq91 : Value) (vq92 : Value) (vq93 : Value) (vq94 : Value) (H : Heap) (locs : List Loc) (hK : va_K (dC, dI) vwCl [(cBu, .int), (cNk, .int)] s) (hP : va_P (dC, dI) vwCl [(xX, .inr (11, [.ref xT, .int 0, .ref xW, .ref xR, .ref xM, .ref xS, .int (-1), .int 0, .int (-1)])), (xW, .inr (7, [.ref xRo, .ref xPe, .ref xWh, .ref xTr, .ref xCo, .int 0, .ref xAl, .ref xNl, .ref xDr, .int 0, .ref xFa, .int 0, .int 0, .int 0])), (xM, .inr (2, [.ref xW, .ref xWy, .ref xNl, .int 0, .int 0, vm5, vm6, vm7, vm8, vm9, vm10, vm11, vm12, vm13, vm14, vm15, vm16, vm17, .ref xBu])), (xAl, .inr (0, [.int 0, .ref tD, .int 0])), (xBu, .inl (cBu, 840, .inl (fun _ => 0))), (xPe, .inr (3, [.int 0, vp1, vp2, vp3, vp4, vp5, vp6, vp7, vp8, vp9, vp10, vp11, vp12, vp13, vp14])), (xWh, .inr (10, [.int 0, vh1, vh2, vh3, vh4, vh5, vh6, vh7, vh8])), (xTr, .inr (8, [.int 0, vt1, vt2, vt3, vt4, vt5, vt6, vt7, vt8])), (xWy, .inr (9, [.ref xW, .int 0, vy2, vy3, vy4, vy5, vy6, vy7, vy8])), (xNl, .inr (1, [.int 0, .ref xNk, vn2, vn3, vn4, vn5, vn6])), (xNk, .inl (cNk, 0, .inl (fun _ => 0))), (yM, .inr (12, [.int 0, .ref yT, .int 0, .int 0, .ref yF, vq5, .int 0, .int 0, .int 0, vq9, vq10, vq11, vq12, vq13, vq14, vq15, vq16, vq17, vq18, .ref yC, vq20, vq21, vq22, vq23, vq24, vq25, vq26, vq27, vq28, vq29, vq30, vq31, .int 0, .int 0, .int 0, .int 0, .int 0, .int 0, .int 0, .int 0, .int 0, .int 0, .int 0, .int 0, .int 0, .int 0, .long 0, .ref yL, .ref yD, .ref yB, vq50, vq51, vq52, vq53, vq54, vq55, vq56, vq57, .int 0, .int 0, .int 0, .int 0, .int 0, .int 0, vq64, vq65, .int (-1), .int (-1), vq68, vq69, vq70, vq71, vq72, vq73, vq74, vq75, vq76, vq77, vq78, vq79, vq80, vq81, vq82, vq83, .int 0, .int 0, .int (-1), .int 0, vq88, .int 0, vq90, vq91, vq92, vq93, vq94, .int 0]))] H) (hD : va_D A [(xX, .inr (11, [.ref xT, .int 0, .ref xW, .ref xR, .ref xM, .ref xS, .int (-1), .int 0, .int (-1)])), (xW, .inr (7, [.ref xRo, .ref xPe, .ref xWh, .ref xTr, .ref xCo, .int 0, .ref xAl, .ref xNl, .ref xDr, .int 0, .ref xFa, .int 0, .int 0, .int 0])), (xM, .inr (2, [.ref xW, .ref xWy, .ref xNl, .int 0, .int 0, vm5, vm6, vm7, vm8, vm9, vm10, vm11, vm12, vm13, vm14, vm15, vm16, vm17, .ref xBu])), (xAl, .inr (0, [.int 0, .ref tD, .int 0])), (xBu, .inl (cBu, 840, .inl (fun _ => 0))), (xPe, .inr (3, [.int 0, vp1, vp2, vp3, vp4, vp5, vp6, vp7, vp8, vp9, vp10, vp11, vp12, vp13, vp14])), (xWh, .inr (10, [.int 0, vh1, vh2, vh3, vh4, vh5, vh6, vh7, vh8])), (xTr, .inr (8, [.int 0, vt1, vt2, vt3, vt4, vt5, vt6, vt7, vt8])), (xWy, .inr (9, [.ref xW, .int 0, vy2, vy3, vy4, vy5, vy6, vy7, vy8])), (xNl, .inr (1, [.int 0, .ref xNk, vn2, vn3, vn4, vn5, vn6])), (xNk, .inl (cNk, 0, .inl (fun _ => 0))), (yM, .inr (12, [.int 0, .ref yT, .int 0, .int 0, .ref yF, vq5, .int 0, .int 0, .int 0, vq9, vq10, vq11, vq12, vq13, vq14, vq15, vq16, vq17, vq18, .ref yC, vq20, vq21, vq22, vq23, vq24, vq25, vq26, vq27, vq28, vq29, vq30, vq31, .int 0, .int 0, .int 0, .int 0, .int 0, .int 0, .int 0, .int 0, .int 0, .int 0, .int 0, .int 0, .int 0, .int 0, .long 0, .ref yL, .ref yD, .ref yB, vq50, vq51, vq52, vq53, vq54, vq55, vq56, vq57, .int 0, .int 0, .int 0, .int 0, .int 0, .int 0, vq64, vq65, .int (-1), .int (-1), vq68, vq69, vq70, vq71, vq72, vq73, vq74, vq75, vq76, vq77, vq78, vq79, vq80, vq81, vq82, vq83, .int 0, .int 0, .int (-1), .int 0, vq88, .int 0, vq90, vq91, vq92, vq93, vq94, .int 0]))]) (hS : va_S A s.heap H locs) (ls : Array Slot) (hl : lv_has ls 7 [(0, .ref b), (1, .ref xX), (2, .ref yM), (3, .ref yO), (4, .int 0)]) : W p l e room_1 s m #[Value.ref b] below meth c H locs 156 13846 (lw_Z below #[Value.ref b] s) (F0 m 799 ls []) := by
  obtain ⟨hx, hb, hr, hml, hown, hts0, hX, hbl, hlocks, hgv⟩ := id C0
  have hb : c.code = cL_law := hb
  have hown : s.vm.findClass RL = some m.cls := hown
  have hts : ∀ w ∈ (.initialized RL :: lw_good : List Cond), w.before #[Value.ref b] s = true := fun w h => (List.mem_cons.mp h).elim (fun q => by rw [q]; exact hts0 _ (lwgT kw_1_0)) (fun q => hts0 w (lwgT q))
  have hA : ∀ q : Nat, s.heap.size ≤ q → A q := fun q h => by rw [hAe]; exact h
  have hbA : ¬ A b := by rw [hAe]; exact Nat.not_le.mpr hbl
  refine lv_aload_n hx hb dL_law_799 rfl (lv_at hl 1 rfl) ?_
  have hPc := hP.sub (ws' := [(xX, .inr (11, [.ref xT, .int 0, .ref xW, .ref xR, .ref xM, .ref xS, .int (-1), .int 0, .int (-1)])), (xW, .inr (7, [.ref xRo, .ref xPe, .ref xWh, .ref xTr, .ref xCo, .int 0, .ref xAl, .ref xNl, .ref xDr, .int 0, .ref xFa, .int 0, .int 0, .int 0])), (xM, .inr (2, [.ref xW, .ref xWy, .ref xNl, .int 0, .int 0, vm5, vm6, vm7, vm8, vm9, vm10, vm11, vm12, vm13, vm14, vm15, vm16, vm17, .ref xBu])), (xAl, .inr (0, [.int 0, .ref tD, .int 0])), (xBu, .inl (cBu, 840, .inl (fun _ => 0))), (xPe, .inr (3, [.int 0, vp1, vp2, vp3, vp4, vp5, vp6, vp7, vp8, vp9, vp10, vp11, vp12, vp13, vp14])), (xWh, .inr (10, [.int 0, vh1, vh2, vh3, vh4, vh5, vh6, vh7, vh8])), (xTr, .inr (8, [.int 0, vt1, vt2, vt3, vt4, vt5, vt6, vt7, vt8])), (xWy, .inr (9, [.ref xW, .int 0, vy2, vy3, vy4, vy5, vy6, vy7, vy8])), (xNl, .inr (1, [.int 0, .ref xNk, vn2, vn3, vn4, vn5, vn6])), (xNk, .inl (cNk, 0, .inl (fun _ => 0)))]) [0, 1, 2, 3, 4, 5, 6, 7, 8, 9, 10] rfl
  have hDc := hD.sub (ws' := [(xX, .inr (11, [.ref xT, .int 0, .ref xW, .ref xR, .ref xM, .ref xS, .int (-1), .int 0, .int (-1)])), (xW, .inr (7, [.ref xRo, .ref xPe, .ref xWh, .ref xTr, .ref xCo, .int 0, .ref xAl, .ref xNl, .ref xDr, .int 0, .ref xFa, .int 0, .int 0, .int 0])), (xM, .inr (2, [.ref xW, .ref xWy, .ref xNl, .int 0, .int 0, vm5, vm6, vm7, vm8, vm9, vm10, vm11, vm12, vm13, vm14, vm15, vm16, vm17, .ref xBu])), (xAl, .inr (0, [.int 0, .ref tD, .int 0])), (xBu, .inl (cBu, 840, .inl (fun _ => 0))), (xPe, .inr (3, [.int 0, vp1, vp2, vp3, vp4, vp5, vp6, vp7, vp8, vp9, vp10, vp11, vp12, vp13, vp14])), (xWh, .inr (10, [.int 0, vh1, vh2, vh3, vh4, vh5, vh6, vh7, vh8])), (xTr, .inr (8, [.int 0, vt1, vt2, vt3, vt4, vt5, vt6, vt7, vt8])), (xWy, .inr (9, [.ref xW, .int 0, vy2, vy3, vy4, vy5, vy6, vy7, vy8])), (xNl, .inr (1, [.int 0, .ref xNk, vn2, vn3, vn4, vn5, vn6])), (xNk, .inl (cNk, 0, .inl (fun _ => 0)))]) [0, 1, 2, 3, 4, 5, 6, 7, 8, 9, 10] (by decide) rfl
  have hKc := hK.sub (tys' := [(cBu, .int), (cNk, .int)]) [0, 1] rfl
  have hFc := va_free (wc := [(xX, .inr (11, [.ref xT, .int 0, .ref xW, .ref xR, .ref xM, .ref xS, .int (-1), .int 0, .int (-1)])), (xW, .inr (7, [.ref xRo, .ref xPe, .ref xWh, .ref xTr, .ref xCo, .int 0, .ref xAl, .ref xNl, .ref xDr, .int 0, .ref xFa, .int 0, .int 0, .int 0])), (xM, .inr (2, [.ref xW, .ref xWy, .ref xNl, .int 0, .int 0, vm5, vm6, vm7, vm8, vm9, vm10, vm11, vm12, vm13, vm14, vm15, vm16, vm17, .ref xBu])), (xAl, .inr (0, [.int 0, .ref tD, .int 0])), (xBu, .inl (cBu, 840, .inl (fun _ => 0))), (xPe, .inr (3, [.int 0, vp1, vp2, vp3, vp4, vp5, vp6, vp7, vp8, vp9, vp10, vp11, vp12, vp13, vp14])), (xWh, .inr (10, [.int 0, vh1, vh2, vh3, vh4, vh5, vh6, vh7, vh8])), (xTr, .inr (8, [.int 0, vt1, vt2, vt3, vt4, vt5, vt6, vt7, vt8])), (xWy, .inr (9, [.ref xW, .int 0, vy2, vy3, vy4, vy5, vy6, vy7, vy8])), (xNl, .inr (1, [.int 0, .ref xNk, vn2, vn3, vn4, vn5, vn6])), (xNk, .inl (cNk, 0, .inl (fun _ => 0)))]) hD hS hA [0, 1, 2, 3, 4, 5, 6, 7, 8, 9, 10] rfl
  refine va_calli (va_runV (As := []) (rest := []) ⟨hx, hb, hml, hown, hts⟩ (x_morning l dC dI H.size xX xT xW xR xM xS xRo xPe xWh xTr xCo xAl xNl xDr xFa xWy (vm5 : Value) (vm6 : Value) (vm7 : Value) (vm8 : Value) (vm9 : Value) (vm10 : Value) (vm11 : Value) (vm12 : Value) (vm13 : Value) (vm14 : Value) (vm15 : Value) (vm16 : Value) (vm17 : Value) xBu tD cBu (vp1 : Value) (vp2 : Value) (vp3 : Value) (vp4 : Value) (vp5 : Value) (vp6 : Value) (vp7 : Value) (vp8 : Value) (vp9 : Value) (vp10 : Value) (vp11 : Value) (vp12 : Value) (vp13 : Value) (vp14 : Value) (vh1 : Value) (vh2 : Value) (vh3 : Value) (vh4 : Value) (vh5 : Value) (vh6 : Value) (vh7 : Value) (vh8 : Value) (vt1 : Value) (vt2 : Value) (vt3 : Value) (vt4 : Value) (vt5 : Value) (vt6 : Value) (vt7 : Value) (vt8 : Value) (vy2 : Value) (vy3 : Value) (vy4 : Value) (vy5 : Value) (vy6 : Value) (vy7 : Value) (vy8 : Value) xNk (vn2 : Value) (vn3 : Value) (vn4 : Value) (vn5 : Value) (vn6 : Value) cNk) (cwV 0 hts (gV kw_5_42 kw_5_43 kw_5_44 kw_1_1 kw_5_45) rfl rfl rfl (by decide +kernel) ⟨Nat.le_of_ble_eq_true rfl, Nat.le_of_ble_eq_true rfl⟩) ⟨fun a U g mk q => by obtain ⟨q0, q1, qP, qK, qD⟩ := q; exact ⟨q0, q1, qP, va_K.moved (u := U) (U := U.calling g mk a) (Vm.Alike.refl U.vm) qK, qD⟩, va_recv hKc hPc (ci := 11) (q0 := 0) rfl rfl, fun U hU hW => ⟨rfl, by rw [hU], by rw [hU]; exact hPc, va_K.moved hW.alike hKc, hDc.weaken (fun _ _ _ _ => trivial)⟩⟩ rfl rfl hl.1 rfl (lv_room (Nat.le_of_ble_eq_true rfl)) dL_law_800 ⟨Nat.le_of_ble_eq_true rfl, Nat.le_of_ble_eq_true rfl⟩) hS (fun q _ h => hFc q h) hFc (fun r_1 u t H1 locs ht hvm hw hB hz1 hk1 hS => ?_)
  obtain ⟨hP, hD⟩ := va_join (wr := [(yM, .inr (12, [.int 0, .ref yT, .int 0, .int 0, .ref yF, vq5, .int 0, .int 0, .int 0, vq9, vq10, vq11, vq12, vq13, vq14, vq15, vq16, vq17, vq18, .ref yC, vq20, vq21, vq22, vq23, vq24, vq25, vq26, vq27, vq28, vq29, vq30, vq31, .int 0, .int 0, .int 0, .int 0, .int 0, .int 0, .int 0, .int 0, .int 0, .int 0, .int 0, .int 0, .int 0, .int 0, .long 0, .ref yL, .ref yD, .ref yB, vq50, vq51, vq52, vq53, vq54, vq55, vq56, vq57, .int 0, .int 0, .int 0, .int 0, .int 0, .int 0, vq64, vq65, .int (-1), .int (-1), vq68, vq69, vq70, vq71, vq72, vq73, vq74, vq75, vq76, vq77, vq78, vq79, vq80, vq81, vq82, vq83, .int 0, .int 0, .int (-1), .int 0, vq88, .int 0, vq90, vq91, vq92, vq93, vq94, .int 0]))]) (w1 := []) hP hD [0, 1, 2, 3, 4, 5, 6, 7, 8, 9, 10] [11] rfl rfl (by decide) (by decide) hk1 hFc (fun k q h => by simp at h) ⟨fun i j p q h => by simp at h, fun k q h => by simp at h⟩
  have hK := hK.sub (tys' := []) [] rfl
  generalize H1 = H at hP hS ⊢
  have hP : va_P (dC, dI) vwCl [(yM, .inr (12, [.int 0, .ref yT, .int 0, .int 0, .ref yF, vq5, .int 0, .int 0, .int 0, vq9, vq10, vq11, vq12, vq13, vq14, vq15, vq16, vq17, vq18, .ref yC, vq20, vq21, vq22, vq23, vq24, vq25, vq26, vq27, vq28, vq29, vq30, vq31, .int 0, .int 0, .int 0, .int 0, .int 0, .int 0, .int 0, .int 0, .int 0, .int 0, .int 0, .int 0, .int 0, .int 0, .long 0, .ref yL, .ref yD, .ref yB, vq50, vq51, vq52, vq53, vq54, vq55, vq56, vq57, .int 0, .int 0, .int 0, .int 0, .int 0, .int 0, vq64, vq65, .int (-1), .int (-1), vq68, vq69, vq70, vq71, vq72, vq73, vq74, vq75, vq76, vq77, vq78, vq79, vq80, vq81, vq82, vq83, .int 0, .int 0, .int (-1), .int 0, vq88, .int 0, vq90, vq91, vq92, vq93, vq94, .int 0]))] H := hP
  have hD : va_D A [(yM, .inr (12, [.int 0, .ref yT, .int 0, .int 0, .ref yF, vq5, .int 0, .int 0, .int 0, vq9, vq10, vq11, vq12, vq13, vq14, vq15, vq16, vq17, vq18, .ref yC, vq20, vq21, vq22, vq23, vq24, vq25, vq26, vq27, vq28, vq29, vq30, vq31, .int 0, .int 0, .int 0, .int 0, .int 0, .int 0, .int 0, .int 0, .int 0, .int 0, .int 0, .int 0, .int 0, .int 0, .long 0, .ref yL, .ref yD, .ref yB, vq50, vq51, vq52, vq53, vq54, vq55, vq56, vq57, .int 0, .int 0, .int 0, .int 0, .int 0, .int 0, vq64, vq65, .int (-1), .int (-1), vq68, vq69, vq70, vq71, vq72, vq73, vq74, vq75, vq76, vq77, vq78, vq79, vq80, vq81, vq82, vq83, .int 0, .int 0, .int (-1), .int 0, vq88, .int 0, vq90, vq91, vq92, vq93, vq94, .int 0]))] := hD
  have hK : va_K (dC, dI) vwCl [] s := hK
  subst hw
  refine lv_aload_n hx hb dL_law_803 rfl (lv_at hl 2 rfl) ?_
  have hPc := hP.sub (ws' := [(yM, .inr (12, [.int 0, .ref yT, .int 0, .int 0, .ref yF, vq5, .int 0, .int 0, .int 0, vq9, vq10, vq11, vq12, vq13, vq14, vq15, vq16, vq17, vq18, .ref yC, vq20, vq21, vq22, vq23, vq24, vq25, vq26, vq27, vq28, vq29, vq30, vq31, .int 0, .int 0, .int 0, .int 0, .int 0, .int 0, .int 0, .int 0, .int 0, .int 0, .int 0, .int 0, .int 0, .int 0, .long 0, .ref yL, .ref yD, .ref yB, vq50, vq51, vq52, vq53, vq54, vq55, vq56, vq57, .int 0, .int 0, .int 0, .int 0, .int 0, .int 0, vq64, vq65, .int (-1), .int (-1), vq68, vq69, vq70, vq71, vq72, vq73, vq74, vq75, vq76, vq77, vq78, vq79, vq80, vq81, vq82, vq83, .int 0, .int 0, .int (-1), .int 0, vq88, .int 0, vq90, vq91, vq92, vq93, vq94, .int 0]))]) [0] rfl
  have hDc := hD.sub (ws' := [(yM, .inr (12, [.int 0, .ref yT, .int 0, .int 0, .ref yF, vq5, .int 0, .int 0, .int 0, vq9, vq10, vq11, vq12, vq13, vq14, vq15, vq16, vq17, vq18, .ref yC, vq20, vq21, vq22, vq23, vq24, vq25, vq26, vq27, vq28, vq29, vq30, vq31, .int 0, .int 0, .int 0, .int 0, .int 0, .int 0, .int 0, .int 0, .int 0, .int 0, .int 0, .int 0, .int 0, .int 0, .long 0, .ref yL, .ref yD, .ref yB, vq50, vq51, vq52, vq53, vq54, vq55, vq56, vq57, .int 0, .int 0, .int 0, .int 0, .int 0, .int 0, vq64, vq65, .int (-1), .int (-1), vq68, vq69, vq70, vq71, vq72, vq73, vq74, vq75, vq76, vq77, vq78, vq79, vq80, vq81, vq82, vq83, .int 0, .int 0, .int (-1), .int 0, vq88, .int 0, vq90, vq91, vq92, vq93, vq94, .int 0]))]) [0] (by decide) rfl
  have hKc := hK.sub (tys' := []) [] rfl
  have hFc := va_free (wc := [(yM, .inr (12, [.int 0, .ref yT, .int 0, .int 0, .ref yF, vq5, .int 0, .int 0, .int 0, vq9, vq10, vq11, vq12, vq13, vq14, vq15, vq16, vq17, vq18, .ref yC, vq20, vq21, vq22, vq23, vq24, vq25, vq26, vq27, vq28, vq29, vq30, vq31, .int 0, .int 0, .int 0, .int 0, .int 0, .int 0, .int 0, .int 0, .int 0, .int 0, .int 0, .int 0, .int 0, .int 0, .long 0, .ref yL, .ref yD, .ref yB, vq50, vq51, vq52, vq53, vq54, vq55, vq56, vq57, .int 0, .int 0, .int 0, .int 0, .int 0, .int 0, vq64, vq65, .int (-1), .int (-1), vq68, vq69, vq70, vq71, vq72, vq73, vq74, vq75, vq76, vq77, vq78, vq79, vq80, vq81, vq82, vq83, .int 0, .int 0, .int (-1), .int 0, vq88, .int 0, vq90, vq91, vq92, vq93, vq94, .int 0]))]) hD hS hA [0] rfl
  refine va_calli (va_runV (As := []) (rest := [.int 0]) ⟨hx, hb, hml, hown, hts⟩ (m_morning l dC dI H.size yM yT yF (vq5 : Value) (vq9 : Value) (vq10 : Value) (vq11 : Value) (vq12 : Value) (vq13 : Value) (vq14 : Value) (vq15 : Value) (vq16 : Value) (vq17 : Value) (vq18 : Value) yC (vq20 : Value) (vq21 : Value) (vq22 : Value) (vq23 : Value) (vq24 : Value) (vq25 : Value) (vq26 : Value) (vq27 : Value) (vq28 : Value) (vq29 : Value) (vq30 : Value) (vq31 : Value) yL yD yB (vq50 : Value) (vq51 : Value) (vq52 : Value) (vq53 : Value) (vq54 : Value) (vq55 : Value) (vq56 : Value) (vq57 : Value) (vq64 : Value) (vq65 : Value) (vq68 : Value) (vq69 : Value) (vq70 : Value) (vq71 : Value) (vq72 : Value) (vq73 : Value) (vq74 : Value) (vq75 : Value) (vq76 : Value) (vq77 : Value) (vq78 : Value) (vq79 : Value) (vq80 : Value) (vq81 : Value) (vq82 : Value) (vq83 : Value) (vq88 : Value) (vq90 : Value) (vq91 : Value) (vq92 : Value) (vq93 : Value) (vq94 : Value)) (cwV 0 hts (gV kw_8_169 kw_8_170 kw_8_171 kw_1_15 kw_8_172) rfl rfl rfl (by decide +kernel) ⟨Nat.le_of_ble_eq_true rfl, Nat.le_of_ble_eq_true rfl⟩) ⟨fun a U g mk q => by obtain ⟨q0, q1, qP, qK, qD⟩ := q; exact ⟨q0, q1, qP, va_K.moved (u := U) (U := U.calling g mk a) (Vm.Alike.refl U.vm) qK, qD⟩, va_recv hKc hPc (ci := 12) (q0 := 0) rfl rfl, fun U hU hW => ⟨rfl, by rw [hU], by rw [hU]; exact hPc, va_K.moved hW.alike hKc, hDc.weaken (fun _ _ _ _ => trivial)⟩⟩ rfl rfl hl.1 rfl (lv_room (Nat.le_of_ble_eq_true rfl)) dL_law_804 ⟨Nat.le_of_ble_eq_true rfl, Nat.le_of_ble_eq_true rfl⟩) hS (fun q _ h => hFc q h) hFc (fun r_3 u t H1 locs ht hvm hw hB hz1 hk1 hS => ?_)
  obtain ⟨hP, hD⟩ := va_join (wr := []) (w1 := []) hP hD [0] [] rfl rfl (by decide) (by decide) hk1 hFc (fun k q h => by simp at h) ⟨fun i j p q h => by simp at h, fun k q h => by simp at h⟩
  have hK := hK.sub (tys' := []) [] rfl
  generalize H1 = H at hP hS ⊢
  have hP : va_P (dC, dI) vwCl [] H := hP
  have hD : va_D A [] := hD
  have hK : va_K (dC, dI) vwCl [] s := hK
  subst hw
  refine lv_icmp_eq (tgt := 1042) hx hb dL_law_807 (by decide) (fun c_5 => ?_) (fun c_5 => ?_)
  rotate_left
  · exact (c_5 (by decide)).elim
  refine lv_iinc (v := 7) (lv' := [(4, .int 7), (0, .ref b), (1, .ref xX), (2, .ref yM), (3, .ref yO)]) hx hb dL_law_1042 hl (k := 4) rfl (by decide) (by decide) rfl (fun ls hl => ?_)
  refine lv_goto (tgt := 23) hx hb dL_law_1045 (by decide) ?_
  refine lv_iload hx hb dL_law_23 (lv_at hl 0 rfl) ?_
  refine lv_aload_n hx hb dL_law_25 rfl (lv_at hl 1 rfl) ?_
  refine va_slen hx hb hX hbl hbA hS dL_law_26 ?_
  refine my_ti (y := 7) (by rw [hL7]; rfl) ?_
  refine lv_bipush (v := 7) hx hb dL_law_27 (by decide) ?_
  refine lv_isub hx hb dL_law_29 ?_
  refine my_ti (y := 0) (by decide) ?_
  refine lv_icmp_gt (tgt := 1048) hx hb dL_law_30 (by decide) (fun c_6 => ?_) (fun c_6 => ?_)
  rotate_left
  · exact (c_6 (by decide)).elim
  refine lv_iconst (v := 1) hx hb dL_law_1048 (by decide) ?_
  refine va_forget (fun q hq => by have h9 := hS.2.2 q hq; rw [hAe] at h9; exact h9) ?_
  refine W.widen (k := 600002) (n := 7302232) (Nat.le_of_ble_eq_true rfl) (Nat.le_of_ble_eq_true rfl) ?_
  exact lw_ret hx hb hr hlocks dL_law_1049
set_option maxHeartbeats 4000000 in
set_option maxRecDepth 100000 in
theorem law_19 {p : Program} {e : Env} {s : State} {m : MethodId} {below : List Frame} {meth : Method} {c : Code} (l : Launch) {b L : Nat} {xs : Nat → Int32} (hL7 : L = 7) (C0 : lw_At p s m meth c b L xs) (dC : Nat → ClassId) (dI : Nat → Nat → Nat) (A : Nat → Prop) (hAe : A = fun q => s.heap.size ≤ q) (yO : Nat) (xX : Nat) (xT : Nat) (xW : Nat) (xR : Nat) (xM : Nat) (xS : Nat) (xRo : Nat) (xPe : Nat) (xWh : Nat) (xTr : Nat) (xCo : Nat) (xAl : Nat) (xNl : Nat) (xDr : Nat) (xFa : Nat) (vt1 : Value) (vt2 : Value) (vt3 : Value) (vt4 : Value) (vt5 : Value) (vt6 : Value) (vt7 : Value) (vt8 : Value) (yM : Nat) (yT : Nat) (yF : Nat) (vq5 : Value) (vq9 : Value) (vq10 : Value) (vq11 : Value) (vq12 : Value) (vq13 : Value) (vq14 : Value) (vq15 : Value) (vq16 : Value) (vq17 : Value) (vq18 : Value) (yC : Nat) (vq20 : Value) (vq21 : Value) (vq22 : Value) (vq23 : Value) (vq24 : Value) (vq25 : Value) (vq26 : Value) (vq27 : Value) (vq28 : Value) (vq29 : Value) (vq30 : Value) (vq31 : Value) (yL : Nat) (yD : Nat) (yB : Nat) (vq50 : Value) (vq51 : Value) (vq52 : Value) (vq53 : Value) (vq54 : Value) (vq55 : Value) (vq56 : Value) (vq57 : Value) (vq64 : Value) (vq65 : Value) (vq68 : Value) (vq69 : Value) (vq70 : Value) (vq71 : Value) (vq72 : Value) (vq73 : Value) (vq74 : Value) (vq75 : Value) (vq76 : Value) (vq77 : Value) (vq78 : Value) (vq79 : Value) (vq80 : Value) (vq81 : Value) (vq82 : Value) (vq83 : Value) (vq88 : Value) (vq90 : Value) (vq91 : Value) (vq92 : Value) (vq93 : Value) (vq94 : Value) (H : Heap) (locs : List Loc) (hK : va_K (dC, dI) vwCl [] s) (hP : va_P (dC, dI) vwCl [(xX, .inr (11, [.ref xT, .int 0, .ref xW, .ref xR, .ref xM, .ref xS, .int (-1), .int 0, .int (-1)])), (xW, .inr (7, [.ref xRo, .ref xPe, .ref xWh, .ref xTr, .ref xCo, .int 0, .ref xAl, .ref xNl, .ref xDr, .int 0, .ref xFa, .int 0, .int 0, .int 0])), (xTr, .inr (8, [.int 0, vt1, vt2, vt3, vt4, vt5, vt6, vt7, vt8])), (yM, .inr (12, [.int 0, .ref yT, .int 0, .int 0, .ref yF, vq5, .int 0, .int 0, .int 0, vq9, vq10, vq11, vq12, vq13, vq14, vq15, vq16, vq17, vq18, .ref yC, vq20, vq21, vq22, vq23, vq24, vq25, vq26, vq27, vq28, vq29, vq30, vq31, .int 0, .int 0, .int 0, .int 0, .int 0, .int 0, .int 0, .int 0, .int 0, .int 0, .int 0, .int 0, .int 0, .int 0, .long 0, .ref yL, .ref yD, .ref yB, vq50, vq51, vq52, vq53, vq54, vq55, vq56, vq57, .int 0, .int 0, .int 0, .int 0, .int 0, .int 0, vq64, vq65, .int (-1), .int (-1), vq68, vq69, vq70, vq71, vq72, vq73, vq74, vq75, vq76, vq77, vq78, vq79, vq80, vq81, vq82, vq83, .int 0, .int 0, .int (-1), .int 0, vq88, .int 0, vq90, vq91, vq92, vq93, vq94, .int 0]))] H) (hD : va_D A [(xX, .inr (11, [.ref xT, .int 0, .ref xW, .ref xR, .ref xM, .ref xS, .int (-1), .int 0, .int (-1)])), (xW, .inr (7, [.ref xRo, .ref xPe, .ref xWh, .ref xTr, .ref xCo, .int 0, .ref xAl, .ref xNl, .ref xDr, .int 0, .ref xFa, .int 0, .int 0, .int 0])), (xTr, .inr (8, [.int 0, vt1, vt2, vt3, vt4, vt5, vt6, vt7, vt8])), (yM, .inr (12, [.int 0, .ref yT, .int 0, .int 0, .ref yF, vq5, .int 0, .int 0, .int 0, vq9, vq10, vq11, vq12, vq13, vq14, vq15, vq16, vq17, vq18, .ref yC, vq20, vq21, vq22, vq23, vq24, vq25, vq26, vq27, vq28, vq29, vq30, vq31, .int 0, .int 0, .int 0, .int 0, .int 0, .int 0, .int 0, .int 0, .int 0, .int 0, .int 0, .int 0, .int 0, .int 0, .long 0, .ref yL, .ref yD, .ref yB, vq50, vq51, vq52, vq53, vq54, vq55, vq56, vq57, .int 0, .int 0, .int 0, .int 0, .int 0, .int 0, vq64, vq65, .int (-1), .int (-1), vq68, vq69, vq70, vq71, vq72, vq73, vq74, vq75, vq76, vq77, vq78, vq79, vq80, vq81, vq82, vq83, .int 0, .int 0, .int (-1), .int 0, vq88, .int 0, vq90, vq91, vq92, vq93, vq94, .int 0]))]) (hS : va_S A s.heap H locs) (ls : Array Slot) (hl : lv_has ls 7 [(0, .ref b), (1, .ref xX), (2, .ref yM), (3, .ref yO), (4, .int 0)]) : W p l e room_1 s m #[Value.ref b] below meth c H locs 156 13846 (lw_Z below #[Value.ref b] s) (F0 m 880 ls []) := by
  obtain ⟨hx, hb, hr, hml, hown, hts0, hX, hbl, hlocks, hgv⟩ := id C0
  have hb : c.code = cL_law := hb
  have hown : s.vm.findClass RL = some m.cls := hown
  have hts : ∀ w ∈ (.initialized RL :: lw_good : List Cond), w.before #[Value.ref b] s = true := fun w h => (List.mem_cons.mp h).elim (fun q => by rw [q]; exact hts0 _ (lwgT kw_1_0)) (fun q => hts0 w (lwgT q))
  have hA : ∀ q : Nat, s.heap.size ≤ q → A q := fun q h => by rw [hAe]; exact h
  have hbA : ¬ A b := by rw [hAe]; exact Nat.not_le.mpr hbl
  refine lv_aload_n hx hb dL_law_880 rfl (lv_at hl 1 rfl) ?_
  refine lv_aload_n hx hb dL_law_881 rfl (lv_at hl 0 rfl) ?_
  refine lv_iload hx hb dL_law_882 (lv_at hl 4 rfl) ?_
  refine lv_iconst (v := 1) hx hb dL_law_884 (by decide) ?_
  refine lv_iadd hx hb dL_law_885 ?_
  refine my_ti (y := 1) (by decide) ?_
  refine va_sld hx hb hX hbl hbA hS (by rw [hL7]; unfold vp_in; decide) dL_law_886 ?_
  refine lv_topi (fun v_1 ev_1 => ?_)
  have hPc := hP.sub (ws' := [(xX, .inr (11, [.ref xT, .int 0, .ref xW, .ref xR, .ref xM, .ref xS, .int (-1), .int 0, .int (-1)])), (xW, .inr (7, [.ref xRo, .ref xPe, .ref xWh, .ref xTr, .ref xCo, .int 0, .ref xAl, .ref xNl, .ref xDr, .int 0, .ref xFa, .int 0, .int 0, .int 0])), (xTr, .inr (8, [.int 0, vt1, vt2, vt3, vt4, vt5, vt6, vt7, vt8]))]) [0, 1, 2] rfl
  have hDc := hD.sub (ws' := [(xX, .inr (11, [.ref xT, .int 0, .ref xW, .ref xR, .ref xM, .ref xS, .int (-1), .int 0, .int (-1)])), (xW, .inr (7, [.ref xRo, .ref xPe, .ref xWh, .ref xTr, .ref xCo, .int 0, .ref xAl, .ref xNl, .ref xDr, .int 0, .ref xFa, .int 0, .int 0, .int 0])), (xTr, .inr (8, [.int 0, vt1, vt2, vt3, vt4, vt5, vt6, vt7, vt8]))]) [0, 1, 2] (by decide) rfl
  have hKc := hK.sub (tys' := []) [] rfl
  have hFc := va_free (wc := [(xX, .inr (11, [.ref xT, .int 0, .ref xW, .ref xR, .ref xM, .ref xS, .int (-1), .int 0, .int (-1)])), (xW, .inr (7, [.ref xRo, .ref xPe, .ref xWh, .ref xTr, .ref xCo, .int 0, .ref xAl, .ref xNl, .ref xDr, .int 0, .ref xFa, .int 0, .int 0, .int 0])), (xTr, .inr (8, [.int 0, vt1, vt2, vt3, vt4, vt5, vt6, vt7, vt8]))]) hD hS hA [0, 1, 2] rfl
  refine va_calli (va_runV (As := [.int v_1]) (rest := []) ⟨hx, hb, hml, hown, hts⟩ (x_rode l dC dI H.size v_1 xX xT xW xR xM xS xRo xPe xWh xTr xCo xAl xNl xDr xFa (vt1 : Value) (vt2 : Value) (vt3 : Value) (vt4 : Value) (vt5 : Value) (vt6 : Value) (vt7 : Value) (vt8 : Value)) (cwV 1 hts (gV kw_5_218 kw_5_219 kw_5_220 kw_1_1 kw_5_221) rfl rfl rfl (by decide +kernel) ⟨Nat.le_of_ble_eq_true rfl, Nat.le_of_ble_eq_true rfl⟩) ⟨fun a U g mk q => by obtain ⟨q0, q1, qP, qK, qD⟩ := q; exact ⟨q0, q1, qP, va_K.moved (u := U) (U := U.calling g mk a) (Vm.Alike.refl U.vm) qK, qD⟩, va_recv hKc hPc (ci := 11) (q0 := 0) rfl rfl, fun U hU hW => ⟨rfl, by rw [hU], by rw [hU]; exact hPc, va_K.moved hW.alike hKc, hDc.weaken (fun _ _ _ _ => trivial)⟩⟩ rfl rfl hl.1 rfl (lv_room (Nat.le_of_ble_eq_true rfl)) dL_law_887 ⟨Nat.le_of_ble_eq_true rfl, Nat.le_of_ble_eq_true rfl⟩) hS (fun q _ h => hFc q h) hFc (fun r_2 u t H1 locs ht hvm hw hB hz1 hk1 hS => ?_)
  obtain ⟨hP, hD⟩ := va_join (wr := [(yM, .inr (12, [.int 0, .ref yT, .int 0, .int 0, .ref yF, vq5, .int 0, .int 0, .int 0, vq9, vq10, vq11, vq12, vq13, vq14, vq15, vq16, vq17, vq18, .ref yC, vq20, vq21, vq22, vq23, vq24, vq25, vq26, vq27, vq28, vq29, vq30, vq31, .int 0, .int 0, .int 0, .int 0, .int 0, .int 0, .int 0, .int 0, .int 0, .int 0, .int 0, .int 0, .int 0, .int 0, .long 0, .ref yL, .ref yD, .ref yB, vq50, vq51, vq52, vq53, vq54, vq55, vq56, vq57, .int 0, .int 0, .int 0, .int 0, .int 0, .int 0, vq64, vq65, .int (-1), .int (-1), vq68, vq69, vq70, vq71, vq72, vq73, vq74, vq75, vq76, vq77, vq78, vq79, vq80, vq81, vq82, vq83, .int 0, .int 0, .int (-1), .int 0, vq88, .int 0, vq90, vq91, vq92, vq93, vq94, .int 0]))]) (w1 := []) hP hD [0, 1, 2] [3] rfl rfl (by decide) (by decide) hk1 hFc (fun k q h => by simp at h) ⟨fun i j p q h => by simp at h, fun k q h => by simp at h⟩
  have hK := hK.sub (tys' := []) [] rfl
  generalize H1 = H at hP hS ⊢
  have hP : va_P (dC, dI) vwCl [(yM, .inr (12, [.int 0, .ref yT, .int 0, .int 0, .ref yF, vq5, .int 0, .int 0, .int 0, vq9, vq10, vq11, vq12, vq13, vq14, vq15, vq16, vq17, vq18, .ref yC, vq20, vq21, vq22, vq23, vq24, vq25, vq26, vq27, vq28, vq29, vq30, vq31, .int 0, .int 0, .int 0, .int 0, .int 0, .int 0, .int 0, .int 0, .int 0, .int 0, .int 0, .int 0, .int 0, .int 0, .long 0, .ref yL, .ref yD, .ref yB, vq50, vq51, vq52, vq53, vq54, vq55, vq56, vq57, .int 0, .int 0, .int 0, .int 0, .int 0, .int 0, vq64, vq65, .int (-1), .int (-1), vq68, vq69, vq70, vq71, vq72, vq73, vq74, vq75, vq76, vq77, vq78, vq79, vq80, vq81, vq82, vq83, .int 0, .int 0, .int (-1), .int 0, vq88, .int 0, vq90, vq91, vq92, vq93, vq94, .int 0]))] H := hP
  have hD : va_D A [(yM, .inr (12, [.int 0, .ref yT, .int 0, .int 0, .ref yF, vq5, .int 0, .int 0, .int 0, vq9, vq10, vq11, vq12, vq13, vq14, vq15, vq16, vq17, vq18, .ref yC, vq20, vq21, vq22, vq23, vq24, vq25, vq26, vq27, vq28, vq29, vq30, vq31, .int 0, .int 0, .int 0, .int 0, .int 0, .int 0, .int 0, .int 0, .int 0, .int 0, .int 0, .int 0, .int 0, .int 0, .long 0, .ref yL, .ref yD, .ref yB, vq50, vq51, vq52, vq53, vq54, vq55, vq56, vq57, .int 0, .int 0, .int 0, .int 0, .int 0, .int 0, vq64, vq65, .int (-1), .int (-1), vq68, vq69, vq70, vq71, vq72, vq73, vq74, vq75, vq76, vq77, vq78, vq79, vq80, vq81, vq82, vq83, .int 0, .int 0, .int (-1), .int 0, vq88, .int 0, vq90, vq91, vq92, vq93, vq94, .int 0]))] := hD
  have hK : va_K (dC, dI) vwCl [] s := hK
  subst hw
  refine lv_aload_n hx hb dL_law_890 rfl (lv_at hl 2 rfl) ?_
  refine lv_aload_n hx hb dL_law_891 rfl (lv_at hl 0 rfl) ?_
  refine lv_iload hx hb dL_law_892 (lv_at hl 4 rfl) ?_
  refine lv_iconst (v := 1) hx hb dL_law_894 (by decide) ?_
  refine lv_iadd hx hb dL_law_895 ?_
  refine my_ti (y := 1) (by decide) ?_
  refine va_sld hx hb hX hbl hbA hS (by rw [hL7]; unfold vp_in; decide) dL_law_896 ?_
  refine lv_topi (fun v_4 ev_4 => ?_)
  have hPc := hP.sub (ws' := [(yM, .inr (12, [.int 0, .ref yT, .int 0, .int 0, .ref yF, vq5, .int 0, .int 0, .int 0, vq9, vq10, vq11, vq12, vq13, vq14, vq15, vq16, vq17, vq18, .ref yC, vq20, vq21, vq22, vq23, vq24, vq25, vq26, vq27, vq28, vq29, vq30, vq31, .int 0, .int 0, .int 0, .int 0, .int 0, .int 0, .int 0, .int 0, .int 0, .int 0, .int 0, .int 0, .int 0, .int 0, .long 0, .ref yL, .ref yD, .ref yB, vq50, vq51, vq52, vq53, vq54, vq55, vq56, vq57, .int 0, .int 0, .int 0, .int 0, .int 0, .int 0, vq64, vq65, .int (-1), .int (-1), vq68, vq69, vq70, vq71, vq72, vq73, vq74, vq75, vq76, vq77, vq78, vq79, vq80, vq81, vq82, vq83, .int 0, .int 0, .int (-1), .int 0, vq88, .int 0, vq90, vq91, vq92, vq93, vq94, .int 0]))]) [0] rfl
  have hDc := hD.sub (ws' := [(yM, .inr (12, [.int 0, .ref yT, .int 0, .int 0, .ref yF, vq5, .int 0, .int 0, .int 0, vq9, vq10, vq11, vq12, vq13, vq14, vq15, vq16, vq17, vq18, .ref yC, vq20, vq21, vq22, vq23, vq24, vq25, vq26, vq27, vq28, vq29, vq30, vq31, .int 0, .int 0, .int 0, .int 0, .int 0, .int 0, .int 0, .int 0, .int 0, .int 0, .int 0, .int 0, .int 0, .int 0, .long 0, .ref yL, .ref yD, .ref yB, vq50, vq51, vq52, vq53, vq54, vq55, vq56, vq57, .int 0, .int 0, .int 0, .int 0, .int 0, .int 0, vq64, vq65, .int (-1), .int (-1), vq68, vq69, vq70, vq71, vq72, vq73, vq74, vq75, vq76, vq77, vq78, vq79, vq80, vq81, vq82, vq83, .int 0, .int 0, .int (-1), .int 0, vq88, .int 0, vq90, vq91, vq92, vq93, vq94, .int 0]))]) [0] (by decide) rfl
  have hKc := hK.sub (tys' := []) [] rfl
  have hFc := va_free (wc := [(yM, .inr (12, [.int 0, .ref yT, .int 0, .int 0, .ref yF, vq5, .int 0, .int 0, .int 0, vq9, vq10, vq11, vq12, vq13, vq14, vq15, vq16, vq17, vq18, .ref yC, vq20, vq21, vq22, vq23, vq24, vq25, vq26, vq27, vq28, vq29, vq30, vq31, .int 0, .int 0, .int 0, .int 0, .int 0, .int 0, .int 0, .int 0, .int 0, .int 0, .int 0, .int 0, .int 0, .int 0, .long 0, .ref yL, .ref yD, .ref yB, vq50, vq51, vq52, vq53, vq54, vq55, vq56, vq57, .int 0, .int 0, .int 0, .int 0, .int 0, .int 0, vq64, vq65, .int (-1), .int (-1), vq68, vq69, vq70, vq71, vq72, vq73, vq74, vq75, vq76, vq77, vq78, vq79, vq80, vq81, vq82, vq83, .int 0, .int 0, .int (-1), .int 0, vq88, .int 0, vq90, vq91, vq92, vq93, vq94, .int 0]))]) hD hS hA [0] rfl
  refine va_calli (va_runV (As := [.int v_4]) (rest := [.int (-1)]) ⟨hx, hb, hml, hown, hts⟩ (m_rode l dC dI H.size v_4 yM yT yF (vq5 : Value) (vq9 : Value) (vq10 : Value) (vq11 : Value) (vq12 : Value) (vq13 : Value) (vq14 : Value) (vq15 : Value) (vq16 : Value) (vq17 : Value) (vq18 : Value) yC (vq20 : Value) (vq21 : Value) (vq22 : Value) (vq23 : Value) (vq24 : Value) (vq25 : Value) (vq26 : Value) (vq27 : Value) (vq28 : Value) (vq29 : Value) (vq30 : Value) (vq31 : Value) yL yD yB (vq50 : Value) (vq51 : Value) (vq52 : Value) (vq53 : Value) (vq54 : Value) (vq55 : Value) (vq56 : Value) (vq57 : Value) (vq64 : Value) (vq65 : Value) (vq68 : Value) (vq69 : Value) (vq70 : Value) (vq71 : Value) (vq72 : Value) (vq73 : Value) (vq74 : Value) (vq75 : Value) (vq76 : Value) (vq77 : Value) (vq78 : Value) (vq79 : Value) (vq80 : Value) (vq81 : Value) (vq82 : Value) (vq83 : Value) (vq88 : Value) (vq90 : Value) (vq91 : Value) (vq92 : Value) (vq93 : Value) (vq94 : Value)) (cwV 1 hts (gV kw_9_13 kw_9_14 kw_9_15 kw_1_15 kw_9_16) rfl rfl rfl (by decide +kernel) ⟨Nat.le_of_ble_eq_true rfl, Nat.le_of_ble_eq_true rfl⟩) ⟨fun a U g mk q => by obtain ⟨q0, q1, qP, qK, qD⟩ := q; exact ⟨q0, q1, qP, va_K.moved (u := U) (U := U.calling g mk a) (Vm.Alike.refl U.vm) qK, qD⟩, va_recv hKc hPc (ci := 12) (q0 := 0) rfl rfl, fun U hU hW => ⟨rfl, by rw [hU], by rw [hU]; exact hPc, va_K.moved hW.alike hKc, hDc.weaken (fun _ _ _ _ => trivial)⟩⟩ rfl rfl hl.1 rfl (lv_room (Nat.le_of_ble_eq_true rfl)) dL_law_897 ⟨Nat.le_of_ble_eq_true rfl, Nat.le_of_ble_eq_true rfl⟩) hS (fun q _ h => hFc q h) hFc (fun r_5 u t H1 locs ht hvm hw hB hz1 hk1 hS => ?_)
  obtain ⟨hP, hD⟩ := va_join (wr := []) (w1 := []) hP hD [0] [] rfl rfl (by decide) (by decide) hk1 hFc (fun k q h => by simp at h) ⟨fun i j p q h => by simp at h, fun k q h => by simp at h⟩
  have hK := hK.sub (tys' := []) [] rfl
  generalize H1 = H at hP hS ⊢
  have hP : va_P (dC, dI) vwCl [] H := hP
  have hD : va_D A [] := hD
  have hK : va_K (dC, dI) vwCl [] s := hK
  subst hw
  refine lv_icmp_eq (tgt := 1042) hx hb dL_law_900 (by decide) (fun c_7 => ?_) (fun c_7 => ?_)
  rotate_left
  · exact (c_7 (by decide)).elim
  refine lv_iinc (v := 7) (lv' := [(4, .int 7), (0, .ref b), (1, .ref xX), (2, .ref yM), (3, .ref yO)]) hx hb dL_law_1042 hl (k := 4) rfl (by decide) (by decide) rfl (fun ls hl => ?_)
  refine lv_goto (tgt := 23) hx hb dL_law_1045 (by decide) ?_
  refine lv_iload hx hb dL_law_23 (lv_at hl 0 rfl) ?_
  refine lv_aload_n hx hb dL_law_25 rfl (lv_at hl 1 rfl) ?_
  refine va_slen hx hb hX hbl hbA hS dL_law_26 ?_
  refine my_ti (y := 7) (by rw [hL7]; rfl) ?_
  refine lv_bipush (v := 7) hx hb dL_law_27 (by decide) ?_
  refine lv_isub hx hb dL_law_29 ?_
  refine my_ti (y := 0) (by decide) ?_
  refine lv_icmp_gt (tgt := 1048) hx hb dL_law_30 (by decide) (fun c_8 => ?_) (fun c_8 => ?_)
  rotate_left
  · exact (c_8 (by decide)).elim
  refine lv_iconst (v := 1) hx hb dL_law_1048 (by decide) ?_
  refine va_forget (fun q hq => by have h9 := hS.2.2 q hq; rw [hAe] at h9; exact h9) ?_
  refine W.widen (k := 600002) (n := 7302232) (Nat.le_of_ble_eq_true rfl) (Nat.le_of_ble_eq_true rfl) ?_
  exact lw_ret hx hb hr hlocks dL_law_1049
set_option maxHeartbeats 4000000 in
set_option maxRecDepth 100000 in
theorem law_20 {p : Program} {e : Env} {s : State} {m : MethodId} {below : List Frame} {meth : Method} {c : Code} (l : Launch) {b L : Nat} {xs : Nat → Int32} (hL7 : L = 7) (C0 : lw_At p s m meth c b L xs) (dC : Nat → ClassId) (dI : Nat → Nat → Nat) (A : Nat → Prop) (hAe : A = fun q => s.heap.size ≤ q) (yO : Nat) (xX : Nat) (xT : Nat) (xW : Nat) (xR : Nat) (xM : Nat) (xS : Nat) (xRo : Nat) (xPe : Nat) (xWh : Nat) (xTr : Nat) (xCo : Nat) (xAl : Nat) (xNl : Nat) (xDr : Nat) (xFa : Nat) (vh1 : Value) (vh2 : Value) (vh3 : Value) (vh4 : Value) (vh5 : Value) (vh6 : Value) (vh7 : Value) (vh8 : Value) (yM : Nat) (yT : Nat) (yF : Nat) (vq5 : Value) (vq9 : Value) (vq10 : Value) (vq11 : Value) (vq12 : Value) (vq13 : Value) (vq14 : Value) (vq15 : Value) (vq16 : Value) (vq17 : Value) (vq18 : Value) (yC : Nat) (vq20 : Value) (vq21 : Value) (vq22 : Value) (vq23 : Value) (vq24 : Value) (vq25 : Value) (vq26 : Value) (vq27 : Value) (vq28 : Value) (vq29 : Value) (vq30 : Value) (vq31 : Value) (yL : Nat) (yD : Nat) (yB : Nat) (vq50 : Value) (vq51 : Value) (vq52 : Value) (vq53 : Value) (vq54 : Value) (vq55 : Value) (vq56 : Value) (vq57 : Value) (vq64 : Value) (vq65 : Value) (vq68 : Value) (vq69 : Value) (vq70 : Value) (vq71 : Value) (vq72 : Value) (vq73 : Value) (vq74 : Value) (vq75 : Value) (vq76 : Value) (vq77 : Value) (vq78 : Value) (vq79 : Value) (vq80 : Value) (vq81 : Value) (vq82 : Value) (vq83 : Value) (vq88 : Value) (vq90 : Value) (vq91 : Value) (vq92 : Value) (vq93 : Value) (vq94 : Value) (H : Heap) (locs : List Loc) (hK : va_K (dC, dI) vwCl [] s) (hP : va_P (dC, dI) vwCl [(xX, .inr (11, [.ref xT, .int 0, .ref xW, .ref xR, .ref xM, .ref xS, .int (-1), .int 0, .int (-1)])), (xW, .inr (7, [.ref xRo, .ref xPe, .ref xWh, .ref xTr, .ref xCo, .int 0, .ref xAl, .ref xNl, .ref xDr, .int 0, .ref xFa, .int 0, .int 0, .int 0])), (xWh, .inr (10, [.int 0, vh1, vh2, vh3, vh4, vh5, vh6, vh7, vh8])), (yM, .inr (12, [.int 0, .ref yT, .int 0, .int 0, .ref yF, vq5, .int 0, .int 0, .int 0, vq9, vq10, vq11, vq12, vq13, vq14, vq15, vq16, vq17, vq18, .ref yC, vq20, vq21, vq22, vq23, vq24, vq25, vq26, vq27, vq28, vq29, vq30, vq31, .int 0, .int 0, .int 0, .int 0, .int 0, .int 0, .int 0, .int 0, .int 0, .int 0, .int 0, .int 0, .int 0, .int 0, .long 0, .ref yL, .ref yD, .ref yB, vq50, vq51, vq52, vq53, vq54, vq55, vq56, vq57, .int 0, .int 0, .int 0, .int 0, .int 0, .int 0, vq64, vq65, .int (-1), .int (-1), vq68, vq69, vq70, vq71, vq72, vq73, vq74, vq75, vq76, vq77, vq78, vq79, vq80, vq81, vq82, vq83, .int 0, .int 0, .int (-1), .int 0, vq88, .int 0, vq90, vq91, vq92, vq93, vq94, .int 0]))] H) (hD : va_D A [(xX, .inr (11, [.ref xT, .int 0, .ref xW, .ref xR, .ref xM, .ref xS, .int (-1), .int 0, .int (-1)])), (xW, .inr (7, [.ref xRo, .ref xPe, .ref xWh, .ref xTr, .ref xCo, .int 0, .ref xAl, .ref xNl, .ref xDr, .int 0, .ref xFa, .int 0, .int 0, .int 0])), (xWh, .inr (10, [.int 0, vh1, vh2, vh3, vh4, vh5, vh6, vh7, vh8])), (yM, .inr (12, [.int 0, .ref yT, .int 0, .int 0, .ref yF, vq5, .int 0, .int 0, .int 0, vq9, vq10, vq11, vq12, vq13, vq14, vq15, vq16, vq17, vq18, .ref yC, vq20, vq21, vq22, vq23, vq24, vq25, vq26, vq27, vq28, vq29, vq30, vq31, .int 0, .int 0, .int 0, .int 0, .int 0, .int 0, .int 0, .int 0, .int 0, .int 0, .int 0, .int 0, .int 0, .int 0, .long 0, .ref yL, .ref yD, .ref yB, vq50, vq51, vq52, vq53, vq54, vq55, vq56, vq57, .int 0, .int 0, .int 0, .int 0, .int 0, .int 0, vq64, vq65, .int (-1), .int (-1), vq68, vq69, vq70, vq71, vq72, vq73, vq74, vq75, vq76, vq77, vq78, vq79, vq80, vq81, vq82, vq83, .int 0, .int 0, .int (-1), .int 0, vq88, .int 0, vq90, vq91, vq92, vq93, vq94, .int 0]))]) (hS : va_S A s.heap H locs) (ls : Array Slot) (hl : lv_has ls 7 [(0, .ref b), (1, .ref xX), (2, .ref yM), (3, .ref yO), (4, .int 0)]) : W p l e room_1 s m #[Value.ref b] below meth c H locs 156 13846 (lw_Z below #[Value.ref b] s) (F0 m 905 ls []) := by
  obtain ⟨hx, hb, hr, hml, hown, hts0, hX, hbl, hlocks, hgv⟩ := id C0
  have hb : c.code = cL_law := hb
  have hown : s.vm.findClass RL = some m.cls := hown
  have hts : ∀ w ∈ (.initialized RL :: lw_good : List Cond), w.before #[Value.ref b] s = true := fun w h => (List.mem_cons.mp h).elim (fun q => by rw [q]; exact hts0 _ (lwgT kw_1_0)) (fun q => hts0 w (lwgT q))
  have hA : ∀ q : Nat, s.heap.size ≤ q → A q := fun q h => by rw [hAe]; exact h
  have hbA : ¬ A b := by rw [hAe]; exact Nat.not_le.mpr hbl
  refine lv_aload_n hx hb dL_law_905 rfl (lv_at hl 1 rfl) ?_
  refine lv_aload_n hx hb dL_law_906 rfl (lv_at hl 0 rfl) ?_
  refine lv_iload hx hb dL_law_907 (lv_at hl 4 rfl) ?_
  refine lv_iconst (v := 1) hx hb dL_law_909 (by decide) ?_
  refine lv_iadd hx hb dL_law_910 ?_
  refine my_ti (y := 1) (by decide) ?_
  refine va_sld hx hb hX hbl hbA hS (by rw [hL7]; unfold vp_in; decide) dL_law_911 ?_
  refine lv_topi (fun v_1 ev_1 => ?_)
  refine lv_aload_n hx hb dL_law_912 rfl (lv_at hl 0 rfl) ?_
  refine lv_iload hx hb dL_law_913 (lv_at hl 4 rfl) ?_
  refine lv_iconst (v := 2) hx hb dL_law_915 (by decide) ?_
  refine lv_iadd hx hb dL_law_916 ?_
  refine my_ti (y := 2) (by decide) ?_
  refine va_sld hx hb hX hbl hbA hS (by rw [hL7]; unfold vp_in; decide) dL_law_917 ?_
  refine lv_topi (fun v_2 ev_2 => ?_)
  have hPc := hP.sub (ws' := [(xX, .inr (11, [.ref xT, .int 0, .ref xW, .ref xR, .ref xM, .ref xS, .int (-1), .int 0, .int (-1)])), (xW, .inr (7, [.ref xRo, .ref xPe, .ref xWh, .ref xTr, .ref xCo, .int 0, .ref xAl, .ref xNl, .ref xDr, .int 0, .ref xFa, .int 0, .int 0, .int 0])), (xWh, .inr (10, [.int 0, vh1, vh2, vh3, vh4, vh5, vh6, vh7, vh8]))]) [0, 1, 2] rfl
  have hDc := hD.sub (ws' := [(xX, .inr (11, [.ref xT, .int 0, .ref xW, .ref xR, .ref xM, .ref xS, .int (-1), .int 0, .int (-1)])), (xW, .inr (7, [.ref xRo, .ref xPe, .ref xWh, .ref xTr, .ref xCo, .int 0, .ref xAl, .ref xNl, .ref xDr, .int 0, .ref xFa, .int 0, .int 0, .int 0])), (xWh, .inr (10, [.int 0, vh1, vh2, vh3, vh4, vh5, vh6, vh7, vh8]))]) [0, 1, 2] (by decide) rfl
  have hKc := hK.sub (tys' := []) [] rfl
  have hFc := va_free (wc := [(xX, .inr (11, [.ref xT, .int 0, .ref xW, .ref xR, .ref xM, .ref xS, .int (-1), .int 0, .int (-1)])), (xW, .inr (7, [.ref xRo, .ref xPe, .ref xWh, .ref xTr, .ref xCo, .int 0, .ref xAl, .ref xNl, .ref xDr, .int 0, .ref xFa, .int 0, .int 0, .int 0])), (xWh, .inr (10, [.int 0, vh1, vh2, vh3, vh4, vh5, vh6, vh7, vh8]))]) hD hS hA [0, 1, 2] rfl
  refine va_calli (va_runV (As := [.int v_1, .int v_2]) (rest := []) ⟨hx, hb, hml, hown, hts⟩ (x_wheeled l dC dI H.size v_1 v_2 xX xT xW xR xM xS xRo xPe xWh xTr xCo xAl xNl xDr xFa (vh1 : Value) (vh2 : Value) (vh3 : Value) (vh4 : Value) (vh5 : Value) (vh6 : Value) (vh7 : Value) (vh8 : Value)) (cwV 2 hts (gV kw_5_222 kw_5_223 kw_5_224 kw_1_1 kw_5_225) rfl rfl rfl (by decide +kernel) ⟨Nat.le_of_ble_eq_true rfl, Nat.le_of_ble_eq_true rfl⟩) ⟨fun a U g mk q => by obtain ⟨q0, q1, qP, qK, qD⟩ := q; exact ⟨q0, q1, qP, va_K.moved (u := U) (U := U.calling g mk a) (Vm.Alike.refl U.vm) qK, qD⟩, va_recv hKc hPc (ci := 11) (q0 := 0) rfl rfl, fun U hU hW => ⟨rfl, by rw [hU], by rw [hU]; exact hPc, va_K.moved hW.alike hKc, hDc.weaken (fun _ _ _ _ => trivial)⟩⟩ rfl rfl hl.1 rfl (lv_room (Nat.le_of_ble_eq_true rfl)) dL_law_918 ⟨Nat.le_of_ble_eq_true rfl, Nat.le_of_ble_eq_true rfl⟩) hS (fun q _ h => hFc q h) hFc (fun r_3 u t H1 locs ht hvm hw hB hz1 hk1 hS => ?_)
  obtain ⟨hP, hD⟩ := va_join (wr := [(yM, .inr (12, [.int 0, .ref yT, .int 0, .int 0, .ref yF, vq5, .int 0, .int 0, .int 0, vq9, vq10, vq11, vq12, vq13, vq14, vq15, vq16, vq17, vq18, .ref yC, vq20, vq21, vq22, vq23, vq24, vq25, vq26, vq27, vq28, vq29, vq30, vq31, .int 0, .int 0, .int 0, .int 0, .int 0, .int 0, .int 0, .int 0, .int 0, .int 0, .int 0, .int 0, .int 0, .int 0, .long 0, .ref yL, .ref yD, .ref yB, vq50, vq51, vq52, vq53, vq54, vq55, vq56, vq57, .int 0, .int 0, .int 0, .int 0, .int 0, .int 0, vq64, vq65, .int (-1), .int (-1), vq68, vq69, vq70, vq71, vq72, vq73, vq74, vq75, vq76, vq77, vq78, vq79, vq80, vq81, vq82, vq83, .int 0, .int 0, .int (-1), .int 0, vq88, .int 0, vq90, vq91, vq92, vq93, vq94, .int 0]))]) (w1 := []) hP hD [0, 1, 2] [3] rfl rfl (by decide) (by decide) hk1 hFc (fun k q h => by simp at h) ⟨fun i j p q h => by simp at h, fun k q h => by simp at h⟩
  have hK := hK.sub (tys' := []) [] rfl
  generalize H1 = H at hP hS ⊢
  have hP : va_P (dC, dI) vwCl [(yM, .inr (12, [.int 0, .ref yT, .int 0, .int 0, .ref yF, vq5, .int 0, .int 0, .int 0, vq9, vq10, vq11, vq12, vq13, vq14, vq15, vq16, vq17, vq18, .ref yC, vq20, vq21, vq22, vq23, vq24, vq25, vq26, vq27, vq28, vq29, vq30, vq31, .int 0, .int 0, .int 0, .int 0, .int 0, .int 0, .int 0, .int 0, .int 0, .int 0, .int 0, .int 0, .int 0, .int 0, .long 0, .ref yL, .ref yD, .ref yB, vq50, vq51, vq52, vq53, vq54, vq55, vq56, vq57, .int 0, .int 0, .int 0, .int 0, .int 0, .int 0, vq64, vq65, .int (-1), .int (-1), vq68, vq69, vq70, vq71, vq72, vq73, vq74, vq75, vq76, vq77, vq78, vq79, vq80, vq81, vq82, vq83, .int 0, .int 0, .int (-1), .int 0, vq88, .int 0, vq90, vq91, vq92, vq93, vq94, .int 0]))] H := hP
  have hD : va_D A [(yM, .inr (12, [.int 0, .ref yT, .int 0, .int 0, .ref yF, vq5, .int 0, .int 0, .int 0, vq9, vq10, vq11, vq12, vq13, vq14, vq15, vq16, vq17, vq18, .ref yC, vq20, vq21, vq22, vq23, vq24, vq25, vq26, vq27, vq28, vq29, vq30, vq31, .int 0, .int 0, .int 0, .int 0, .int 0, .int 0, .int 0, .int 0, .int 0, .int 0, .int 0, .int 0, .int 0, .int 0, .long 0, .ref yL, .ref yD, .ref yB, vq50, vq51, vq52, vq53, vq54, vq55, vq56, vq57, .int 0, .int 0, .int 0, .int 0, .int 0, .int 0, vq64, vq65, .int (-1), .int (-1), vq68, vq69, vq70, vq71, vq72, vq73, vq74, vq75, vq76, vq77, vq78, vq79, vq80, vq81, vq82, vq83, .int 0, .int 0, .int (-1), .int 0, vq88, .int 0, vq90, vq91, vq92, vq93, vq94, .int 0]))] := hD
  have hK : va_K (dC, dI) vwCl [] s := hK
  subst hw
  refine lv_aload_n hx hb dL_law_921 rfl (lv_at hl 2 rfl) ?_
  refine lv_aload_n hx hb dL_law_922 rfl (lv_at hl 0 rfl) ?_
  refine lv_iload hx hb dL_law_923 (lv_at hl 4 rfl) ?_
  refine lv_iconst (v := 1) hx hb dL_law_925 (by decide) ?_
  refine lv_iadd hx hb dL_law_926 ?_
  refine my_ti (y := 1) (by decide) ?_
  refine va_sld hx hb hX hbl hbA hS (by rw [hL7]; unfold vp_in; decide) dL_law_927 ?_
  refine lv_topi (fun v_5 ev_5 => ?_)
  refine lv_aload_n hx hb dL_law_928 rfl (lv_at hl 0 rfl) ?_
  refine lv_iload hx hb dL_law_929 (lv_at hl 4 rfl) ?_
  refine lv_iconst (v := 2) hx hb dL_law_931 (by decide) ?_
  refine lv_iadd hx hb dL_law_932 ?_
  refine my_ti (y := 2) (by decide) ?_
  refine va_sld hx hb hX hbl hbA hS (by rw [hL7]; unfold vp_in; decide) dL_law_933 ?_
  refine lv_topi (fun v_6 ev_6 => ?_)
  have hPc := hP.sub (ws' := [(yM, .inr (12, [.int 0, .ref yT, .int 0, .int 0, .ref yF, vq5, .int 0, .int 0, .int 0, vq9, vq10, vq11, vq12, vq13, vq14, vq15, vq16, vq17, vq18, .ref yC, vq20, vq21, vq22, vq23, vq24, vq25, vq26, vq27, vq28, vq29, vq30, vq31, .int 0, .int 0, .int 0, .int 0, .int 0, .int 0, .int 0, .int 0, .int 0, .int 0, .int 0, .int 0, .int 0, .int 0, .long 0, .ref yL, .ref yD, .ref yB, vq50, vq51, vq52, vq53, vq54, vq55, vq56, vq57, .int 0, .int 0, .int 0, .int 0, .int 0, .int 0, vq64, vq65, .int (-1), .int (-1), vq68, vq69, vq70, vq71, vq72, vq73, vq74, vq75, vq76, vq77, vq78, vq79, vq80, vq81, vq82, vq83, .int 0, .int 0, .int (-1), .int 0, vq88, .int 0, vq90, vq91, vq92, vq93, vq94, .int 0]))]) [0] rfl
  have hDc := hD.sub (ws' := [(yM, .inr (12, [.int 0, .ref yT, .int 0, .int 0, .ref yF, vq5, .int 0, .int 0, .int 0, vq9, vq10, vq11, vq12, vq13, vq14, vq15, vq16, vq17, vq18, .ref yC, vq20, vq21, vq22, vq23, vq24, vq25, vq26, vq27, vq28, vq29, vq30, vq31, .int 0, .int 0, .int 0, .int 0, .int 0, .int 0, .int 0, .int 0, .int 0, .int 0, .int 0, .int 0, .int 0, .int 0, .long 0, .ref yL, .ref yD, .ref yB, vq50, vq51, vq52, vq53, vq54, vq55, vq56, vq57, .int 0, .int 0, .int 0, .int 0, .int 0, .int 0, vq64, vq65, .int (-1), .int (-1), vq68, vq69, vq70, vq71, vq72, vq73, vq74, vq75, vq76, vq77, vq78, vq79, vq80, vq81, vq82, vq83, .int 0, .int 0, .int (-1), .int 0, vq88, .int 0, vq90, vq91, vq92, vq93, vq94, .int 0]))]) [0] (by decide) rfl
  have hKc := hK.sub (tys' := []) [] rfl
  have hFc := va_free (wc := [(yM, .inr (12, [.int 0, .ref yT, .int 0, .int 0, .ref yF, vq5, .int 0, .int 0, .int 0, vq9, vq10, vq11, vq12, vq13, vq14, vq15, vq16, vq17, vq18, .ref yC, vq20, vq21, vq22, vq23, vq24, vq25, vq26, vq27, vq28, vq29, vq30, vq31, .int 0, .int 0, .int 0, .int 0, .int 0, .int 0, .int 0, .int 0, .int 0, .int 0, .int 0, .int 0, .int 0, .int 0, .long 0, .ref yL, .ref yD, .ref yB, vq50, vq51, vq52, vq53, vq54, vq55, vq56, vq57, .int 0, .int 0, .int 0, .int 0, .int 0, .int 0, vq64, vq65, .int (-1), .int (-1), vq68, vq69, vq70, vq71, vq72, vq73, vq74, vq75, vq76, vq77, vq78, vq79, vq80, vq81, vq82, vq83, .int 0, .int 0, .int (-1), .int 0, vq88, .int 0, vq90, vq91, vq92, vq93, vq94, .int 0]))]) hD hS hA [0] rfl
  refine va_calli (va_runV (As := [.int v_5, .int v_6]) (rest := [.int (-1)]) ⟨hx, hb, hml, hown, hts⟩ (m_wheeled l dC dI H.size v_5 v_6 yM yT yF (vq5 : Value) (vq9 : Value) (vq10 : Value) (vq11 : Value) (vq12 : Value) (vq13 : Value) (vq14 : Value) (vq15 : Value) (vq16 : Value) (vq17 : Value) (vq18 : Value) yC (vq20 : Value) (vq21 : Value) (vq22 : Value) (vq23 : Value) (vq24 : Value) (vq25 : Value) (vq26 : Value) (vq27 : Value) (vq28 : Value) (vq29 : Value) (vq30 : Value) (vq31 : Value) yL yD yB (vq50 : Value) (vq51 : Value) (vq52 : Value) (vq53 : Value) (vq54 : Value) (vq55 : Value) (vq56 : Value) (vq57 : Value) (vq64 : Value) (vq65 : Value) (vq68 : Value) (vq69 : Value) (vq70 : Value) (vq71 : Value) (vq72 : Value) (vq73 : Value) (vq74 : Value) (vq75 : Value) (vq76 : Value) (vq77 : Value) (vq78 : Value) (vq79 : Value) (vq80 : Value) (vq81 : Value) (vq82 : Value) (vq83 : Value) (vq88 : Value) (vq90 : Value) (vq91 : Value) (vq92 : Value) (vq93 : Value) (vq94 : Value)) (cwV 2 hts (gV kw_9_17 kw_9_18 kw_9_19 kw_1_15 kw_9_20) rfl rfl rfl (by decide +kernel) ⟨Nat.le_of_ble_eq_true rfl, Nat.le_of_ble_eq_true rfl⟩) ⟨fun a U g mk q => by obtain ⟨q0, q1, qP, qK, qD⟩ := q; exact ⟨q0, q1, qP, va_K.moved (u := U) (U := U.calling g mk a) (Vm.Alike.refl U.vm) qK, qD⟩, va_recv hKc hPc (ci := 12) (q0 := 0) rfl rfl, fun U hU hW => ⟨rfl, by rw [hU], by rw [hU]; exact hPc, va_K.moved hW.alike hKc, hDc.weaken (fun _ _ _ _ => trivial)⟩⟩ rfl rfl hl.1 rfl (lv_room (Nat.le_of_ble_eq_true rfl)) dL_law_934 ⟨Nat.le_of_ble_eq_true rfl, Nat.le_of_ble_eq_true rfl⟩) hS (fun q _ h => hFc q h) hFc (fun r_7 u t H1 locs ht hvm hw hB hz1 hk1 hS => ?_)
  obtain ⟨hP, hD⟩ := va_join (wr := []) (w1 := []) hP hD [0] [] rfl rfl (by decide) (by decide) hk1 hFc (fun k q h => by simp at h) ⟨fun i j p q h => by simp at h, fun k q h => by simp at h⟩
  have hK := hK.sub (tys' := []) [] rfl
  generalize H1 = H at hP hS ⊢
  have hP : va_P (dC, dI) vwCl [] H := hP
  have hD : va_D A [] := hD
  have hK : va_K (dC, dI) vwCl [] s := hK
  subst hw
  refine lv_icmp_eq (tgt := 1042) hx hb dL_law_937 (by decide) (fun c_9 => ?_) (fun c_9 => ?_)
  rotate_left
  · exact (c_9 (by decide)).elim
  refine lv_iinc (v := 7) (lv' := [(4, .int 7), (0, .ref b), (1, .ref xX), (2, .ref yM), (3, .ref yO)]) hx hb dL_law_1042 hl (k := 4) rfl (by decide) (by decide) rfl (fun ls hl => ?_)
  refine lv_goto (tgt := 23) hx hb dL_law_1045 (by decide) ?_
  refine lv_iload hx hb dL_law_23 (lv_at hl 0 rfl) ?_
  refine lv_aload_n hx hb dL_law_25 rfl (lv_at hl 1 rfl) ?_
  refine va_slen hx hb hX hbl hbA hS dL_law_26 ?_
  refine my_ti (y := 7) (by rw [hL7]; rfl) ?_
  refine lv_bipush (v := 7) hx hb dL_law_27 (by decide) ?_
  refine lv_isub hx hb dL_law_29 ?_
  refine my_ti (y := 0) (by decide) ?_
  refine lv_icmp_gt (tgt := 1048) hx hb dL_law_30 (by decide) (fun c_10 => ?_) (fun c_10 => ?_)
  rotate_left
  · exact (c_10 (by decide)).elim
  refine lv_iconst (v := 1) hx hb dL_law_1048 (by decide) ?_
  refine va_forget (fun q hq => by have h9 := hS.2.2 q hq; rw [hAe] at h9; exact h9) ?_
  refine W.widen (k := 600002) (n := 7302232) (Nat.le_of_ble_eq_true rfl) (Nat.le_of_ble_eq_true rfl) ?_
  exact lw_ret hx hb hr hlocks dL_law_1049
set_option maxHeartbeats 4000000 in
set_option maxRecDepth 100000 in
theorem law_21 {p : Program} {e : Env} {s : State} {m : MethodId} {below : List Frame} {meth : Method} {c : Code} (l : Launch) {b L : Nat} {xs : Nat → Int32} (hL7 : L = 7) (C0 : lw_At p s m meth c b L xs) (dC : Nat → ClassId) (dI : Nat → Nat → Nat) (A : Nat → Prop) (hAe : A = fun q => s.heap.size ≤ q) (yO : Nat) (xX : Nat) (xT : Nat) (xW : Nat) (xR : Nat) (xM : Nat) (xS : Nat) (xRo : Nat) (xPe : Nat) (xWh : Nat) (xTr : Nat) (xCo : Nat) (xAl : Nat) (xNl : Nat) (xDr : Nat) (xFa : Nat) (vh1 : Value) (vh2 : Value) (vh3 : Value) (vh4 : Value) (vh5 : Value) (vh6 : Value) (vh7 : Value) (vh8 : Value) (yM : Nat) (yT : Nat) (yF : Nat) (vq5 : Value) (vq9 : Value) (vq10 : Value) (vq11 : Value) (vq12 : Value) (vq13 : Value) (vq14 : Value) (vq15 : Value) (vq16 : Value) (vq17 : Value) (vq18 : Value) (yC : Nat) (vq20 : Value) (vq21 : Value) (vq22 : Value) (vq23 : Value) (vq24 : Value) (vq25 : Value) (vq26 : Value) (vq27 : Value) (vq28 : Value) (vq29 : Value) (vq30 : Value) (vq31 : Value) (yL : Nat) (yD : Nat) (yB : Nat) (vq50 : Value) (vq51 : Value) (vq52 : Value) (vq53 : Value) (vq54 : Value) (vq55 : Value) (vq56 : Value) (vq57 : Value) (vq64 : Value) (vq65 : Value) (vq68 : Value) (vq69 : Value) (vq70 : Value) (vq71 : Value) (vq72 : Value) (vq73 : Value) (vq74 : Value) (vq75 : Value) (vq76 : Value) (vq77 : Value) (vq78 : Value) (vq79 : Value) (vq80 : Value) (vq81 : Value) (vq82 : Value) (vq83 : Value) (vq88 : Value) (vq90 : Value) (vq91 : Value) (vq92 : Value) (vq93 : Value) (vq94 : Value) (H : Heap) (locs : List Loc) (hK : va_K (dC, dI) vwCl [] s) (hP : va_P (dC, dI) vwCl [(xX, .inr (11, [.ref xT, .int 0, .ref xW, .ref xR, .ref xM, .ref xS, .int (-1), .int 0, .int (-1)])), (xW, .inr (7, [.ref xRo, .ref xPe, .ref xWh, .ref xTr, .ref xCo, .int 0, .ref xAl, .ref xNl, .ref xDr, .int 0, .ref xFa, .int 0, .int 0, .int 0])), (xWh, .inr (10, [.int 0, vh1, vh2, vh3, vh4, vh5, vh6, vh7, vh8])), (yM, .inr (12, [.int 0, .ref yT, .int 0, .int 0, .ref yF, vq5, .int 0, .int 0, .int 0, vq9, vq10, vq11, vq12, vq13, vq14, vq15, vq16, vq17, vq18, .ref yC, vq20, vq21, vq22, vq23, vq24, vq25, vq26, vq27, vq28, vq29, vq30, vq31, .int 0, .int 0, .int 0, .int 0, .int 0, .int 0, .int 0, .int 0, .int 0, .int 0, .int 0, .int 0, .int 0, .int 0, .long 0, .ref yL, .ref yD, .ref yB, vq50, vq51, vq52, vq53, vq54, vq55, vq56, vq57, .int 0, .int 0, .int 0, .int 0, .int 0, .int 0, vq64, vq65, .int (-1), .int (-1), vq68, vq69, vq70, vq71, vq72, vq73, vq74, vq75, vq76, vq77, vq78, vq79, vq80, vq81, vq82, vq83, .int 0, .int 0, .int (-1), .int 0, vq88, .int 0, vq90, vq91, vq92, vq93, vq94, .int 0]))] H) (hD : va_D A [(xX, .inr (11, [.ref xT, .int 0, .ref xW, .ref xR, .ref xM, .ref xS, .int (-1), .int 0, .int (-1)])), (xW, .inr (7, [.ref xRo, .ref xPe, .ref xWh, .ref xTr, .ref xCo, .int 0, .ref xAl, .ref xNl, .ref xDr, .int 0, .ref xFa, .int 0, .int 0, .int 0])), (xWh, .inr (10, [.int 0, vh1, vh2, vh3, vh4, vh5, vh6, vh7, vh8])), (yM, .inr (12, [.int 0, .ref yT, .int 0, .int 0, .ref yF, vq5, .int 0, .int 0, .int 0, vq9, vq10, vq11, vq12, vq13, vq14, vq15, vq16, vq17, vq18, .ref yC, vq20, vq21, vq22, vq23, vq24, vq25, vq26, vq27, vq28, vq29, vq30, vq31, .int 0, .int 0, .int 0, .int 0, .int 0, .int 0, .int 0, .int 0, .int 0, .int 0, .int 0, .int 0, .int 0, .int 0, .long 0, .ref yL, .ref yD, .ref yB, vq50, vq51, vq52, vq53, vq54, vq55, vq56, vq57, .int 0, .int 0, .int 0, .int 0, .int 0, .int 0, vq64, vq65, .int (-1), .int (-1), vq68, vq69, vq70, vq71, vq72, vq73, vq74, vq75, vq76, vq77, vq78, vq79, vq80, vq81, vq82, vq83, .int 0, .int 0, .int (-1), .int 0, vq88, .int 0, vq90, vq91, vq92, vq93, vq94, .int 0]))]) (hS : va_S A s.heap H locs) (ls : Array Slot) (hl : lv_has ls 7 [(0, .ref b), (1, .ref xX), (2, .ref yM), (3, .ref yO), (4, .int 0)]) : W p l e room_1 s m #[Value.ref b] below meth c H locs 156 13846 (lw_Z below #[Value.ref b] s) (F0 m 942 ls []) := by
  obtain ⟨hx, hb, hr, hml, hown, hts0, hX, hbl, hlocks, hgv⟩ := id C0
  have hb : c.code = cL_law := hb
  have hown : s.vm.findClass RL = some m.cls := hown
  have hts : ∀ w ∈ (.initialized RL :: lw_good : List Cond), w.before #[Value.ref b] s = true := fun w h => (List.mem_cons.mp h).elim (fun q => by rw [q]; exact hts0 _ (lwgT kw_1_0)) (fun q => hts0 w (lwgT q))
  have hA : ∀ q : Nat, s.heap.size ≤ q → A q := fun q h => by rw [hAe]; exact h
  have hbA : ¬ A b := by rw [hAe]; exact Nat.not_le.mpr hbl
  refine lv_aload_n hx hb dL_law_942 rfl (lv_at hl 1 rfl) ?_
  refine lv_aload_n hx hb dL_law_943 rfl (lv_at hl 0 rfl) ?_
  refine lv_iload hx hb dL_law_944 (lv_at hl 4 rfl) ?_
  refine lv_iconst (v := 1) hx hb dL_law_946 (by decide) ?_
  refine lv_iadd hx hb dL_law_947 ?_
  refine my_ti (y := 1) (by decide) ?_
  refine va_sld hx hb hX hbl hbA hS (by rw [hL7]; unfold vp_in; decide) dL_law_948 ?_
  refine lv_topi (fun v_1 ev_1 => ?_)
  have hPc := hP.sub (ws' := [(xX, .inr (11, [.ref xT, .int 0, .ref xW, .ref xR, .ref xM, .ref xS, .int (-1), .int 0, .int (-1)])), (xW, .inr (7, [.ref xRo, .ref xPe, .ref xWh, .ref xTr, .ref xCo, .int 0, .ref xAl, .ref xNl, .ref xDr, .int 0, .ref xFa, .int 0, .int 0, .int 0])), (xWh, .inr (10, [.int 0, vh1, vh2, vh3, vh4, vh5, vh6, vh7, vh8]))]) [0, 1, 2] rfl
  have hDc := hD.sub (ws' := [(xX, .inr (11, [.ref xT, .int 0, .ref xW, .ref xR, .ref xM, .ref xS, .int (-1), .int 0, .int (-1)])), (xW, .inr (7, [.ref xRo, .ref xPe, .ref xWh, .ref xTr, .ref xCo, .int 0, .ref xAl, .ref xNl, .ref xDr, .int 0, .ref xFa, .int 0, .int 0, .int 0])), (xWh, .inr (10, [.int 0, vh1, vh2, vh3, vh4, vh5, vh6, vh7, vh8]))]) [0, 1, 2] (by decide) rfl
  have hKc := hK.sub (tys' := []) [] rfl
  have hFc := va_free (wc := [(xX, .inr (11, [.ref xT, .int 0, .ref xW, .ref xR, .ref xM, .ref xS, .int (-1), .int 0, .int (-1)])), (xW, .inr (7, [.ref xRo, .ref xPe, .ref xWh, .ref xTr, .ref xCo, .int 0, .ref xAl, .ref xNl, .ref xDr, .int 0, .ref xFa, .int 0, .int 0, .int 0])), (xWh, .inr (10, [.int 0, vh1, vh2, vh3, vh4, vh5, vh6, vh7, vh8]))]) hD hS hA [0, 1, 2] rfl
  refine va_calli (va_runV (As := [.int v_1]) (rest := []) ⟨hx, hb, hml, hown, hts⟩ (x_tried l dC dI H.size v_1 xX xT xW xR xM xS xRo xPe xWh xTr xCo xAl xNl xDr xFa (vh1 : Value) (vh2 : Value) (vh3 : Value) (vh4 : Value) (vh5 : Value) (vh6 : Value) (vh7 : Value) (vh8 : Value)) (cwV 1 hts (gV kw_5_230 kw_5_231 kw_5_232 kw_1_1 kw_5_233) rfl rfl rfl (by decide +kernel) ⟨Nat.le_of_ble_eq_true rfl, Nat.le_of_ble_eq_true rfl⟩) ⟨fun a U g mk q => by obtain ⟨q0, q1, qP, qK, qD⟩ := q; exact ⟨q0, q1, qP, va_K.moved (u := U) (U := U.calling g mk a) (Vm.Alike.refl U.vm) qK, qD⟩, va_recv hKc hPc (ci := 11) (q0 := 0) rfl rfl, fun U hU hW => ⟨rfl, by rw [hU], by rw [hU]; exact hPc, va_K.moved hW.alike hKc, hDc.weaken (fun _ _ _ _ => trivial)⟩⟩ rfl rfl hl.1 rfl (lv_room (Nat.le_of_ble_eq_true rfl)) dL_law_949 ⟨Nat.le_of_ble_eq_true rfl, Nat.le_of_ble_eq_true rfl⟩) hS (fun q _ h => hFc q h) hFc (fun r_2 u t H1 locs ht hvm hw hB hz1 hk1 hS => ?_)
  obtain ⟨hP, hD⟩ := va_join (wr := [(yM, .inr (12, [.int 0, .ref yT, .int 0, .int 0, .ref yF, vq5, .int 0, .int 0, .int 0, vq9, vq10, vq11, vq12, vq13, vq14, vq15, vq16, vq17, vq18, .ref yC, vq20, vq21, vq22, vq23, vq24, vq25, vq26, vq27, vq28, vq29, vq30, vq31, .int 0, .int 0, .int 0, .int 0, .int 0, .int 0, .int 0, .int 0, .int 0, .int 0, .int 0, .int 0, .int 0, .int 0, .long 0, .ref yL, .ref yD, .ref yB, vq50, vq51, vq52, vq53, vq54, vq55, vq56, vq57, .int 0, .int 0, .int 0, .int 0, .int 0, .int 0, vq64, vq65, .int (-1), .int (-1), vq68, vq69, vq70, vq71, vq72, vq73, vq74, vq75, vq76, vq77, vq78, vq79, vq80, vq81, vq82, vq83, .int 0, .int 0, .int (-1), .int 0, vq88, .int 0, vq90, vq91, vq92, vq93, vq94, .int 0]))]) (w1 := []) hP hD [0, 1, 2] [3] rfl rfl (by decide) (by decide) hk1 hFc (fun k q h => by simp at h) ⟨fun i j p q h => by simp at h, fun k q h => by simp at h⟩
  have hK := hK.sub (tys' := []) [] rfl
  generalize H1 = H at hP hS ⊢
  have hP : va_P (dC, dI) vwCl [(yM, .inr (12, [.int 0, .ref yT, .int 0, .int 0, .ref yF, vq5, .int 0, .int 0, .int 0, vq9, vq10, vq11, vq12, vq13, vq14, vq15, vq16, vq17, vq18, .ref yC, vq20, vq21, vq22, vq23, vq24, vq25, vq26, vq27, vq28, vq29, vq30, vq31, .int 0, .int 0, .int 0, .int 0, .int 0, .int 0, .int 0, .int 0, .int 0, .int 0, .int 0, .int 0, .int 0, .int 0, .long 0, .ref yL, .ref yD, .ref yB, vq50, vq51, vq52, vq53, vq54, vq55, vq56, vq57, .int 0, .int 0, .int 0, .int 0, .int 0, .int 0, vq64, vq65, .int (-1), .int (-1), vq68, vq69, vq70, vq71, vq72, vq73, vq74, vq75, vq76, vq77, vq78, vq79, vq80, vq81, vq82, vq83, .int 0, .int 0, .int (-1), .int 0, vq88, .int 0, vq90, vq91, vq92, vq93, vq94, .int 0]))] H := hP
  have hD : va_D A [(yM, .inr (12, [.int 0, .ref yT, .int 0, .int 0, .ref yF, vq5, .int 0, .int 0, .int 0, vq9, vq10, vq11, vq12, vq13, vq14, vq15, vq16, vq17, vq18, .ref yC, vq20, vq21, vq22, vq23, vq24, vq25, vq26, vq27, vq28, vq29, vq30, vq31, .int 0, .int 0, .int 0, .int 0, .int 0, .int 0, .int 0, .int 0, .int 0, .int 0, .int 0, .int 0, .int 0, .int 0, .long 0, .ref yL, .ref yD, .ref yB, vq50, vq51, vq52, vq53, vq54, vq55, vq56, vq57, .int 0, .int 0, .int 0, .int 0, .int 0, .int 0, vq64, vq65, .int (-1), .int (-1), vq68, vq69, vq70, vq71, vq72, vq73, vq74, vq75, vq76, vq77, vq78, vq79, vq80, vq81, vq82, vq83, .int 0, .int 0, .int (-1), .int 0, vq88, .int 0, vq90, vq91, vq92, vq93, vq94, .int 0]))] := hD
  have hK : va_K (dC, dI) vwCl [] s := hK
  subst hw
  refine lv_aload_n hx hb dL_law_952 rfl (lv_at hl 2 rfl) ?_
  refine lv_aload_n hx hb dL_law_953 rfl (lv_at hl 0 rfl) ?_
  refine lv_iload hx hb dL_law_954 (lv_at hl 4 rfl) ?_
  refine lv_iconst (v := 1) hx hb dL_law_956 (by decide) ?_
  refine lv_iadd hx hb dL_law_957 ?_
  refine my_ti (y := 1) (by decide) ?_
  refine va_sld hx hb hX hbl hbA hS (by rw [hL7]; unfold vp_in; decide) dL_law_958 ?_
  refine lv_topi (fun v_4 ev_4 => ?_)
  have hPc := hP.sub (ws' := [(yM, .inr (12, [.int 0, .ref yT, .int 0, .int 0, .ref yF, vq5, .int 0, .int 0, .int 0, vq9, vq10, vq11, vq12, vq13, vq14, vq15, vq16, vq17, vq18, .ref yC, vq20, vq21, vq22, vq23, vq24, vq25, vq26, vq27, vq28, vq29, vq30, vq31, .int 0, .int 0, .int 0, .int 0, .int 0, .int 0, .int 0, .int 0, .int 0, .int 0, .int 0, .int 0, .int 0, .int 0, .long 0, .ref yL, .ref yD, .ref yB, vq50, vq51, vq52, vq53, vq54, vq55, vq56, vq57, .int 0, .int 0, .int 0, .int 0, .int 0, .int 0, vq64, vq65, .int (-1), .int (-1), vq68, vq69, vq70, vq71, vq72, vq73, vq74, vq75, vq76, vq77, vq78, vq79, vq80, vq81, vq82, vq83, .int 0, .int 0, .int (-1), .int 0, vq88, .int 0, vq90, vq91, vq92, vq93, vq94, .int 0]))]) [0] rfl
  have hDc := hD.sub (ws' := [(yM, .inr (12, [.int 0, .ref yT, .int 0, .int 0, .ref yF, vq5, .int 0, .int 0, .int 0, vq9, vq10, vq11, vq12, vq13, vq14, vq15, vq16, vq17, vq18, .ref yC, vq20, vq21, vq22, vq23, vq24, vq25, vq26, vq27, vq28, vq29, vq30, vq31, .int 0, .int 0, .int 0, .int 0, .int 0, .int 0, .int 0, .int 0, .int 0, .int 0, .int 0, .int 0, .int 0, .int 0, .long 0, .ref yL, .ref yD, .ref yB, vq50, vq51, vq52, vq53, vq54, vq55, vq56, vq57, .int 0, .int 0, .int 0, .int 0, .int 0, .int 0, vq64, vq65, .int (-1), .int (-1), vq68, vq69, vq70, vq71, vq72, vq73, vq74, vq75, vq76, vq77, vq78, vq79, vq80, vq81, vq82, vq83, .int 0, .int 0, .int (-1), .int 0, vq88, .int 0, vq90, vq91, vq92, vq93, vq94, .int 0]))]) [0] (by decide) rfl
  have hKc := hK.sub (tys' := []) [] rfl
  have hFc := va_free (wc := [(yM, .inr (12, [.int 0, .ref yT, .int 0, .int 0, .ref yF, vq5, .int 0, .int 0, .int 0, vq9, vq10, vq11, vq12, vq13, vq14, vq15, vq16, vq17, vq18, .ref yC, vq20, vq21, vq22, vq23, vq24, vq25, vq26, vq27, vq28, vq29, vq30, vq31, .int 0, .int 0, .int 0, .int 0, .int 0, .int 0, .int 0, .int 0, .int 0, .int 0, .int 0, .int 0, .int 0, .int 0, .long 0, .ref yL, .ref yD, .ref yB, vq50, vq51, vq52, vq53, vq54, vq55, vq56, vq57, .int 0, .int 0, .int 0, .int 0, .int 0, .int 0, vq64, vq65, .int (-1), .int (-1), vq68, vq69, vq70, vq71, vq72, vq73, vq74, vq75, vq76, vq77, vq78, vq79, vq80, vq81, vq82, vq83, .int 0, .int 0, .int (-1), .int 0, vq88, .int 0, vq90, vq91, vq92, vq93, vq94, .int 0]))]) hD hS hA [0] rfl
  refine va_calli (va_runV (As := [.int v_4]) (rest := [.int (-1)]) ⟨hx, hb, hml, hown, hts⟩ (m_tried l dC dI H.size v_4 yM yT yF (vq5 : Value) (vq9 : Value) (vq10 : Value) (vq11 : Value) (vq12 : Value) (vq13 : Value) (vq14 : Value) (vq15 : Value) (vq16 : Value) (vq17 : Value) (vq18 : Value) yC (vq20 : Value) (vq21 : Value) (vq22 : Value) (vq23 : Value) (vq24 : Value) (vq25 : Value) (vq26 : Value) (vq27 : Value) (vq28 : Value) (vq29 : Value) (vq30 : Value) (vq31 : Value) yL yD yB (vq50 : Value) (vq51 : Value) (vq52 : Value) (vq53 : Value) (vq54 : Value) (vq55 : Value) (vq56 : Value) (vq57 : Value) (vq64 : Value) (vq65 : Value) (vq68 : Value) (vq69 : Value) (vq70 : Value) (vq71 : Value) (vq72 : Value) (vq73 : Value) (vq74 : Value) (vq75 : Value) (vq76 : Value) (vq77 : Value) (vq78 : Value) (vq79 : Value) (vq80 : Value) (vq81 : Value) (vq82 : Value) (vq83 : Value) (vq88 : Value) (vq90 : Value) (vq91 : Value) (vq92 : Value) (vq93 : Value) (vq94 : Value)) (cwV 1 hts (gV kw_8_233 kw_8_234 kw_8_235 kw_1_15 kw_8_236) rfl rfl rfl (by decide +kernel) ⟨Nat.le_of_ble_eq_true rfl, Nat.le_of_ble_eq_true rfl⟩) ⟨fun a U g mk q => by obtain ⟨q0, q1, qP, qK, qD⟩ := q; exact ⟨q0, q1, qP, va_K.moved (u := U) (U := U.calling g mk a) (Vm.Alike.refl U.vm) qK, qD⟩, va_recv hKc hPc (ci := 12) (q0 := 0) rfl rfl, fun U hU hW => ⟨rfl, by rw [hU], by rw [hU]; exact hPc, va_K.moved hW.alike hKc, hDc.weaken (fun _ _ _ _ => trivial)⟩⟩ rfl rfl hl.1 rfl (lv_room (Nat.le_of_ble_eq_true rfl)) dL_law_959 ⟨Nat.le_of_ble_eq_true rfl, Nat.le_of_ble_eq_true rfl⟩) hS (fun q _ h => hFc q h) hFc (fun r_5 u t H1 locs ht hvm hw hB hz1 hk1 hS => ?_)
  obtain ⟨hP, hD⟩ := va_join (wr := []) (w1 := []) hP hD [0] [] rfl rfl (by decide) (by decide) hk1 hFc (fun k q h => by simp at h) ⟨fun i j p q h => by simp at h, fun k q h => by simp at h⟩
  have hK := hK.sub (tys' := []) [] rfl
  generalize H1 = H at hP hS ⊢
  have hP : va_P (dC, dI) vwCl [] H := hP
  have hD : va_D A [] := hD
  have hK : va_K (dC, dI) vwCl [] s := hK
  subst hw
  refine lv_icmp_eq (tgt := 1042) hx hb dL_law_962 (by decide) (fun c_7 => ?_) (fun c_7 => ?_)
  rotate_left
  · exact (c_7 (by decide)).elim
  refine lv_iinc (v := 7) (lv' := [(4, .int 7), (0, .ref b), (1, .ref xX), (2, .ref yM), (3, .ref yO)]) hx hb dL_law_1042 hl (k := 4) rfl (by decide) (by decide) rfl (fun ls hl => ?_)
  refine lv_goto (tgt := 23) hx hb dL_law_1045 (by decide) ?_
  refine lv_iload hx hb dL_law_23 (lv_at hl 0 rfl) ?_
  refine lv_aload_n hx hb dL_law_25 rfl (lv_at hl 1 rfl) ?_
  refine va_slen hx hb hX hbl hbA hS dL_law_26 ?_
  refine my_ti (y := 7) (by rw [hL7]; rfl) ?_
  refine lv_bipush (v := 7) hx hb dL_law_27 (by decide) ?_
  refine lv_isub hx hb dL_law_29 ?_
  refine my_ti (y := 0) (by decide) ?_
  refine lv_icmp_gt (tgt := 1048) hx hb dL_law_30 (by decide) (fun c_8 => ?_) (fun c_8 => ?_)
  rotate_left
  · exact (c_8 (by decide)).elim
  refine lv_iconst (v := 1) hx hb dL_law_1048 (by decide) ?_
  refine va_forget (fun q hq => by have h9 := hS.2.2 q hq; rw [hAe] at h9; exact h9) ?_
  refine W.widen (k := 600002) (n := 7302232) (Nat.le_of_ble_eq_true rfl) (Nat.le_of_ble_eq_true rfl) ?_
  exact lw_ret hx hb hr hlocks dL_law_1049
set_option maxHeartbeats 4000000 in
set_option maxRecDepth 100000 in
theorem law_22 {p : Program} {e : Env} {s : State} {m : MethodId} {below : List Frame} {meth : Method} {c : Code} (l : Launch) {b L : Nat} {xs : Nat → Int32} (hL7 : L = 7) (C0 : lw_At p s m meth c b L xs) (dC : Nat → ClassId) (dI : Nat → Nat → Nat) (A : Nat → Prop) (hAe : A = fun q => s.heap.size ≤ q) (yO : Nat) (xX : Nat) (xT : Nat) (xW : Nat) (xR : Nat) (xM : Nat) (xS : Nat) (xRo : Nat) (xPe : Nat) (xWh : Nat) (xTr : Nat) (xCo : Nat) (xAl : Nat) (xNl : Nat) (xDr : Nat) (xFa : Nat) (yM : Nat) (yT : Nat) (yF : Nat) (vq5 : Value) (vq9 : Value) (vq10 : Value) (vq11 : Value) (vq12 : Value) (vq13 : Value) (vq14 : Value) (vq15 : Value) (vq16 : Value) (vq17 : Value) (vq18 : Value) (yC : Nat) (vq20 : Value) (vq21 : Value) (vq22 : Value) (vq23 : Value) (vq24 : Value) (vq25 : Value) (vq26 : Value) (vq27 : Value) (vq28 : Value) (vq29 : Value) (vq30 : Value) (vq31 : Value) (yL : Nat) (yD : Nat) (yB : Nat) (vq50 : Value) (vq51 : Value) (vq52 : Value) (vq53 : Value) (vq54 : Value) (vq55 : Value) (vq56 : Value) (vq57 : Value) (vq64 : Value) (vq65 : Value) (vq68 : Value) (vq69 : Value) (vq70 : Value) (vq71 : Value) (vq72 : Value) (vq73 : Value) (vq74 : Value) (vq75 : Value) (vq76 : Value) (vq77 : Value) (vq78 : Value) (vq79 : Value) (vq80 : Value) (vq81 : Value) (vq82 : Value) (vq83 : Value) (vq88 : Value) (vq90 : Value) (vq91 : Value) (vq92 : Value) (vq93 : Value) (vq94 : Value) (H : Heap) (locs : List Loc) (hK : va_K (dC, dI) vwCl [] s) (hP : va_P (dC, dI) vwCl [(xX, .inr (11, [.ref xT, .int 0, .ref xW, .ref xR, .ref xM, .ref xS, .int (-1), .int 0, .int (-1)])), (xW, .inr (7, [.ref xRo, .ref xPe, .ref xWh, .ref xTr, .ref xCo, .int 0, .ref xAl, .ref xNl, .ref xDr, .int 0, .ref xFa, .int 0, .int 0, .int 0])), (yM, .inr (12, [.int 0, .ref yT, .int 0, .int 0, .ref yF, vq5, .int 0, .int 0, .int 0, vq9, vq10, vq11, vq12, vq13, vq14, vq15, vq16, vq17, vq18, .ref yC, vq20, vq21, vq22, vq23, vq24, vq25, vq26, vq27, vq28, vq29, vq30, vq31, .int 0, .int 0, .int 0, .int 0, .int 0, .int 0, .int 0, .int 0, .int 0, .int 0, .int 0, .int 0, .int 0, .int 0, .long 0, .ref yL, .ref yD, .ref yB, vq50, vq51, vq52, vq53, vq54, vq55, vq56, vq57, .int 0, .int 0, .int 0, .int 0, .int 0, .int 0, vq64, vq65, .int (-1), .int (-1), vq68, vq69, vq70, vq71, vq72, vq73, vq74, vq75, vq76, vq77, vq78, vq79, vq80, vq81, vq82, vq83, .int 0, .int 0, .int (-1), .int 0, vq88, .int 0, vq90, vq91, vq92, vq93, vq94, .int 0]))] H) (hD : va_D A [(xX, .inr (11, [.ref xT, .int 0, .ref xW, .ref xR, .ref xM, .ref xS, .int (-1), .int 0, .int (-1)])), (xW, .inr (7, [.ref xRo, .ref xPe, .ref xWh, .ref xTr, .ref xCo, .int 0, .ref xAl, .ref xNl, .ref xDr, .int 0, .ref xFa, .int 0, .int 0, .int 0])), (yM, .inr (12, [.int 0, .ref yT, .int 0, .int 0, .ref yF, vq5, .int 0, .int 0, .int 0, vq9, vq10, vq11, vq12, vq13, vq14, vq15, vq16, vq17, vq18, .ref yC, vq20, vq21, vq22, vq23, vq24, vq25, vq26, vq27, vq28, vq29, vq30, vq31, .int 0, .int 0, .int 0, .int 0, .int 0, .int 0, .int 0, .int 0, .int 0, .int 0, .int 0, .int 0, .int 0, .int 0, .long 0, .ref yL, .ref yD, .ref yB, vq50, vq51, vq52, vq53, vq54, vq55, vq56, vq57, .int 0, .int 0, .int 0, .int 0, .int 0, .int 0, vq64, vq65, .int (-1), .int (-1), vq68, vq69, vq70, vq71, vq72, vq73, vq74, vq75, vq76, vq77, vq78, vq79, vq80, vq81, vq82, vq83, .int 0, .int 0, .int (-1), .int 0, vq88, .int 0, vq90, vq91, vq92, vq93, vq94, .int 0]))]) (hS : va_S A s.heap H locs) (ls : Array Slot) (hl : lv_has ls 7 [(0, .ref b), (1, .ref xX), (2, .ref yM), (3, .ref yO), (4, .int 0)]) : W p l e room_1 s m #[Value.ref b] below meth c H locs 156 13846 (lw_Z below #[Value.ref b] s) (F0 m 967 ls []) := by
  obtain ⟨hx, hb, hr, hml, hown, hts0, hX, hbl, hlocks, hgv⟩ := id C0
  have hb : c.code = cL_law := hb
  have hown : s.vm.findClass RL = some m.cls := hown
  have hts : ∀ w ∈ (.initialized RL :: lw_good : List Cond), w.before #[Value.ref b] s = true := fun w h => (List.mem_cons.mp h).elim (fun q => by rw [q]; exact hts0 _ (lwgT kw_1_0)) (fun q => hts0 w (lwgT q))
  have hA : ∀ q : Nat, s.heap.size ≤ q → A q := fun q h => by rw [hAe]; exact h
  have hbA : ¬ A b := by rw [hAe]; exact Nat.not_le.mpr hbl
  refine lv_aload_n hx hb dL_law_967 rfl (lv_at hl 1 rfl) ?_
  refine lv_aload_n hx hb dL_law_968 rfl (lv_at hl 0 rfl) ?_
  refine lv_iload hx hb dL_law_969 (lv_at hl 4 rfl) ?_
  refine lv_iconst (v := 1) hx hb dL_law_971 (by decide) ?_
  refine lv_iadd hx hb dL_law_972 ?_
  refine my_ti (y := 1) (by decide) ?_
  refine va_sld hx hb hX hbl hbA hS (by rw [hL7]; unfold vp_in; decide) dL_law_973 ?_
  refine lv_topi (fun v_1 ev_1 => ?_)
  have hPc := hP.sub (ws' := [(xX, .inr (11, [.ref xT, .int 0, .ref xW, .ref xR, .ref xM, .ref xS, .int (-1), .int 0, .int (-1)])), (xW, .inr (7, [.ref xRo, .ref xPe, .ref xWh, .ref xTr, .ref xCo, .int 0, .ref xAl, .ref xNl, .ref xDr, .int 0, .ref xFa, .int 0, .int 0, .int 0]))]) [0, 1] rfl
  have hDc := hD.sub (ws' := [(xX, .inr (11, [.ref xT, .int 0, .ref xW, .ref xR, .ref xM, .ref xS, .int (-1), .int 0, .int (-1)])), (xW, .inr (7, [.ref xRo, .ref xPe, .ref xWh, .ref xTr, .ref xCo, .int 0, .ref xAl, .ref xNl, .ref xDr, .int 0, .ref xFa, .int 0, .int 0, .int 0]))]) [0, 1] (by decide) rfl
  have hKc := hK.sub (tys' := []) [] rfl
  have hFc := va_free (wc := [(xX, .inr (11, [.ref xT, .int 0, .ref xW, .ref xR, .ref xM, .ref xS, .int (-1), .int 0, .int (-1)])), (xW, .inr (7, [.ref xRo, .ref xPe, .ref xWh, .ref xTr, .ref xCo, .int 0, .ref xAl, .ref xNl, .ref xDr, .int 0, .ref xFa, .int 0, .int 0, .int 0]))]) hD hS hA [0, 1] rfl
  refine va_calli (va_runV (As := [.int v_1]) (rest := []) ⟨hx, hb, hml, hown, hts⟩ (x_seated l dC dI H.size v_1 xX xT xW xR xM xS xRo xPe xWh xTr xCo xAl xNl xDr xFa) (cwV 1 hts (gV kw_5_234 kw_5_235 kw_5_236 kw_1_1 kw_5_237) rfl rfl rfl (by decide +kernel) ⟨Nat.le_of_ble_eq_true rfl, Nat.le_of_ble_eq_true rfl⟩) ⟨fun a U g mk q => by obtain ⟨q0, q1, qP, qK, qD⟩ := q; exact ⟨q0, q1, qP, va_K.moved (u := U) (U := U.calling g mk a) (Vm.Alike.refl U.vm) qK, qD⟩, va_recv hKc hPc (ci := 11) (q0 := 0) rfl rfl, fun U hU hW => ⟨rfl, by rw [hU], by rw [hU]; exact hPc, va_K.moved hW.alike hKc, hDc.weaken (fun _ _ _ _ => trivial)⟩⟩ rfl rfl hl.1 rfl (lv_room (Nat.le_of_ble_eq_true rfl)) dL_law_974 ⟨Nat.le_of_ble_eq_true rfl, Nat.le_of_ble_eq_true rfl⟩) hS (fun q _ h => hFc q h) hFc (fun r_2 u t H1 locs ht hvm hw hB hz1 hk1 hS => ?_)
  obtain ⟨hP, hD⟩ := va_join (wr := [(yM, .inr (12, [.int 0, .ref yT, .int 0, .int 0, .ref yF, vq5, .int 0, .int 0, .int 0, vq9, vq10, vq11, vq12, vq13, vq14, vq15, vq16, vq17, vq18, .ref yC, vq20, vq21, vq22, vq23, vq24, vq25, vq26, vq27, vq28, vq29, vq30, vq31, .int 0, .int 0, .int 0, .int 0, .int 0, .int 0, .int 0, .int 0, .int 0, .int 0, .int 0, .int 0, .int 0, .int 0, .long 0, .ref yL, .ref yD, .ref yB, vq50, vq51, vq52, vq53, vq54, vq55, vq56, vq57, .int 0, .int 0, .int 0, .int 0, .int 0, .int 0, vq64, vq65, .int (-1), .int (-1), vq68, vq69, vq70, vq71, vq72, vq73, vq74, vq75, vq76, vq77, vq78, vq79, vq80, vq81, vq82, vq83, .int 0, .int 0, .int (-1), .int 0, vq88, .int 0, vq90, vq91, vq92, vq93, vq94, .int 0]))]) (w1 := []) hP hD [0, 1] [2] rfl rfl (by decide) (by decide) hk1 hFc (fun k q h => by simp at h) ⟨fun i j p q h => by simp at h, fun k q h => by simp at h⟩
  have hK := hK.sub (tys' := []) [] rfl
  generalize H1 = H at hP hS ⊢
  have hP : va_P (dC, dI) vwCl [(yM, .inr (12, [.int 0, .ref yT, .int 0, .int 0, .ref yF, vq5, .int 0, .int 0, .int 0, vq9, vq10, vq11, vq12, vq13, vq14, vq15, vq16, vq17, vq18, .ref yC, vq20, vq21, vq22, vq23, vq24, vq25, vq26, vq27, vq28, vq29, vq30, vq31, .int 0, .int 0, .int 0, .int 0, .int 0, .int 0, .int 0, .int 0, .int 0, .int 0, .int 0, .int 0, .int 0, .int 0, .long 0, .ref yL, .ref yD, .ref yB, vq50, vq51, vq52, vq53, vq54, vq55, vq56, vq57, .int 0, .int 0, .int 0, .int 0, .int 0, .int 0, vq64, vq65, .int (-1), .int (-1), vq68, vq69, vq70, vq71, vq72, vq73, vq74, vq75, vq76, vq77, vq78, vq79, vq80, vq81, vq82, vq83, .int 0, .int 0, .int (-1), .int 0, vq88, .int 0, vq90, vq91, vq92, vq93, vq94, .int 0]))] H := hP
  have hD : va_D A [(yM, .inr (12, [.int 0, .ref yT, .int 0, .int 0, .ref yF, vq5, .int 0, .int 0, .int 0, vq9, vq10, vq11, vq12, vq13, vq14, vq15, vq16, vq17, vq18, .ref yC, vq20, vq21, vq22, vq23, vq24, vq25, vq26, vq27, vq28, vq29, vq30, vq31, .int 0, .int 0, .int 0, .int 0, .int 0, .int 0, .int 0, .int 0, .int 0, .int 0, .int 0, .int 0, .int 0, .int 0, .long 0, .ref yL, .ref yD, .ref yB, vq50, vq51, vq52, vq53, vq54, vq55, vq56, vq57, .int 0, .int 0, .int 0, .int 0, .int 0, .int 0, vq64, vq65, .int (-1), .int (-1), vq68, vq69, vq70, vq71, vq72, vq73, vq74, vq75, vq76, vq77, vq78, vq79, vq80, vq81, vq82, vq83, .int 0, .int 0, .int (-1), .int 0, vq88, .int 0, vq90, vq91, vq92, vq93, vq94, .int 0]))] := hD
  have hK : va_K (dC, dI) vwCl [] s := hK
  subst hw
  refine lv_aload_n hx hb dL_law_977 rfl (lv_at hl 2 rfl) ?_
  refine lv_aload_n hx hb dL_law_978 rfl (lv_at hl 0 rfl) ?_
  refine lv_iload hx hb dL_law_979 (lv_at hl 4 rfl) ?_
  refine lv_iconst (v := 1) hx hb dL_law_981 (by decide) ?_
  refine lv_iadd hx hb dL_law_982 ?_
  refine my_ti (y := 1) (by decide) ?_
  refine va_sld hx hb hX hbl hbA hS (by rw [hL7]; unfold vp_in; decide) dL_law_983 ?_
  refine lv_topi (fun v_4 ev_4 => ?_)
  have hPc := hP.sub (ws' := [(yM, .inr (12, [.int 0, .ref yT, .int 0, .int 0, .ref yF, vq5, .int 0, .int 0, .int 0, vq9, vq10, vq11, vq12, vq13, vq14, vq15, vq16, vq17, vq18, .ref yC, vq20, vq21, vq22, vq23, vq24, vq25, vq26, vq27, vq28, vq29, vq30, vq31, .int 0, .int 0, .int 0, .int 0, .int 0, .int 0, .int 0, .int 0, .int 0, .int 0, .int 0, .int 0, .int 0, .int 0, .long 0, .ref yL, .ref yD, .ref yB, vq50, vq51, vq52, vq53, vq54, vq55, vq56, vq57, .int 0, .int 0, .int 0, .int 0, .int 0, .int 0, vq64, vq65, .int (-1), .int (-1), vq68, vq69, vq70, vq71, vq72, vq73, vq74, vq75, vq76, vq77, vq78, vq79, vq80, vq81, vq82, vq83, .int 0, .int 0, .int (-1), .int 0, vq88, .int 0, vq90, vq91, vq92, vq93, vq94, .int 0]))]) [0] rfl
  have hDc := hD.sub (ws' := [(yM, .inr (12, [.int 0, .ref yT, .int 0, .int 0, .ref yF, vq5, .int 0, .int 0, .int 0, vq9, vq10, vq11, vq12, vq13, vq14, vq15, vq16, vq17, vq18, .ref yC, vq20, vq21, vq22, vq23, vq24, vq25, vq26, vq27, vq28, vq29, vq30, vq31, .int 0, .int 0, .int 0, .int 0, .int 0, .int 0, .int 0, .int 0, .int 0, .int 0, .int 0, .int 0, .int 0, .int 0, .long 0, .ref yL, .ref yD, .ref yB, vq50, vq51, vq52, vq53, vq54, vq55, vq56, vq57, .int 0, .int 0, .int 0, .int 0, .int 0, .int 0, vq64, vq65, .int (-1), .int (-1), vq68, vq69, vq70, vq71, vq72, vq73, vq74, vq75, vq76, vq77, vq78, vq79, vq80, vq81, vq82, vq83, .int 0, .int 0, .int (-1), .int 0, vq88, .int 0, vq90, vq91, vq92, vq93, vq94, .int 0]))]) [0] (by decide) rfl
  have hKc := hK.sub (tys' := []) [] rfl
  have hFc := va_free (wc := [(yM, .inr (12, [.int 0, .ref yT, .int 0, .int 0, .ref yF, vq5, .int 0, .int 0, .int 0, vq9, vq10, vq11, vq12, vq13, vq14, vq15, vq16, vq17, vq18, .ref yC, vq20, vq21, vq22, vq23, vq24, vq25, vq26, vq27, vq28, vq29, vq30, vq31, .int 0, .int 0, .int 0, .int 0, .int 0, .int 0, .int 0, .int 0, .int 0, .int 0, .int 0, .int 0, .int 0, .int 0, .long 0, .ref yL, .ref yD, .ref yB, vq50, vq51, vq52, vq53, vq54, vq55, vq56, vq57, .int 0, .int 0, .int 0, .int 0, .int 0, .int 0, vq64, vq65, .int (-1), .int (-1), vq68, vq69, vq70, vq71, vq72, vq73, vq74, vq75, vq76, vq77, vq78, vq79, vq80, vq81, vq82, vq83, .int 0, .int 0, .int (-1), .int 0, vq88, .int 0, vq90, vq91, vq92, vq93, vq94, .int 0]))]) hD hS hA [0] rfl
  refine va_calli (va_runV (As := [.int v_4]) (rest := [.int (-1)]) ⟨hx, hb, hml, hown, hts⟩ (m_seated l dC dI H.size v_4 yM yT yF (vq5 : Value) (vq9 : Value) (vq10 : Value) (vq11 : Value) (vq12 : Value) (vq13 : Value) (vq14 : Value) (vq15 : Value) (vq16 : Value) (vq17 : Value) (vq18 : Value) yC (vq20 : Value) (vq21 : Value) (vq22 : Value) (vq23 : Value) (vq24 : Value) (vq25 : Value) (vq26 : Value) (vq27 : Value) (vq28 : Value) (vq29 : Value) (vq30 : Value) (vq31 : Value) yL yD yB (vq50 : Value) (vq51 : Value) (vq52 : Value) (vq53 : Value) (vq54 : Value) (vq55 : Value) (vq56 : Value) (vq57 : Value) (vq64 : Value) (vq65 : Value) (vq68 : Value) (vq69 : Value) (vq70 : Value) (vq71 : Value) (vq72 : Value) (vq73 : Value) (vq74 : Value) (vq75 : Value) (vq76 : Value) (vq77 : Value) (vq78 : Value) (vq79 : Value) (vq80 : Value) (vq81 : Value) (vq82 : Value) (vq83 : Value) (vq88 : Value) (vq90 : Value) (vq91 : Value) (vq92 : Value) (vq93 : Value) (vq94 : Value)) (cwV 1 hts (gV kw_9_21 kw_9_22 kw_9_23 kw_1_15 kw_9_24) rfl rfl rfl (by decide +kernel) ⟨Nat.le_of_ble_eq_true rfl, Nat.le_of_ble_eq_true rfl⟩) ⟨fun a U g mk q => by obtain ⟨q0, q1, qP, qK, qD⟩ := q; exact ⟨q0, q1, qP, va_K.moved (u := U) (U := U.calling g mk a) (Vm.Alike.refl U.vm) qK, qD⟩, va_recv hKc hPc (ci := 12) (q0 := 0) rfl rfl, fun U hU hW => ⟨rfl, by rw [hU], by rw [hU]; exact hPc, va_K.moved hW.alike hKc, hDc.weaken (fun _ _ _ _ => trivial)⟩⟩ rfl rfl hl.1 rfl (lv_room (Nat.le_of_ble_eq_true rfl)) dL_law_984 ⟨Nat.le_of_ble_eq_true rfl, Nat.le_of_ble_eq_true rfl⟩) hS (fun q _ h => hFc q h) hFc (fun r_5 u t H1 locs ht hvm hw hB hz1 hk1 hS => ?_)
  obtain ⟨hP, hD⟩ := va_join (wr := []) (w1 := []) hP hD [0] [] rfl rfl (by decide) (by decide) hk1 hFc (fun k q h => by simp at h) ⟨fun i j p q h => by simp at h, fun k q h => by simp at h⟩
  have hK := hK.sub (tys' := []) [] rfl
  generalize H1 = H at hP hS ⊢
  have hP : va_P (dC, dI) vwCl [] H := hP
  have hD : va_D A [] := hD
  have hK : va_K (dC, dI) vwCl [] s := hK
  subst hw
  refine lv_icmp_eq (tgt := 1042) hx hb dL_law_987 (by decide) (fun c_7 => ?_) (fun c_7 => ?_)
  rotate_left
  · exact (c_7 (by decide)).elim
  refine lv_iinc (v := 7) (lv' := [(4, .int 7), (0, .ref b), (1, .ref xX), (2, .ref yM), (3, .ref yO)]) hx hb dL_law_1042 hl (k := 4) rfl (by decide) (by decide) rfl (fun ls hl => ?_)
  refine lv_goto (tgt := 23) hx hb dL_law_1045 (by decide) ?_
  refine lv_iload hx hb dL_law_23 (lv_at hl 0 rfl) ?_
  refine lv_aload_n hx hb dL_law_25 rfl (lv_at hl 1 rfl) ?_
  refine va_slen hx hb hX hbl hbA hS dL_law_26 ?_
  refine my_ti (y := 7) (by rw [hL7]; rfl) ?_
  refine lv_bipush (v := 7) hx hb dL_law_27 (by decide) ?_
  refine lv_isub hx hb dL_law_29 ?_
  refine my_ti (y := 0) (by decide) ?_
  refine lv_icmp_gt (tgt := 1048) hx hb dL_law_30 (by decide) (fun c_8 => ?_) (fun c_8 => ?_)
  rotate_left
  · exact (c_8 (by decide)).elim
  refine lv_iconst (v := 1) hx hb dL_law_1048 (by decide) ?_
  refine va_forget (fun q hq => by have h9 := hS.2.2 q hq; rw [hAe] at h9; exact h9) ?_
  refine W.widen (k := 600002) (n := 7302232) (Nat.le_of_ble_eq_true rfl) (Nat.le_of_ble_eq_true rfl) ?_
  exact lw_ret hx hb hr hlocks dL_law_1049
set_option maxHeartbeats 4000000 in
set_option maxRecDepth 100000 in
theorem law_23 {p : Program} {e : Env} {s : State} {m : MethodId} {below : List Frame} {meth : Method} {c : Code} (l : Launch) {b L : Nat} {xs : Nat → Int32} (hL7 : L = 7) (C0 : lw_At p s m meth c b L xs) (dC : Nat → ClassId) (dI : Nat → Nat → Nat) (A : Nat → Prop) (hAe : A = fun q => s.heap.size ≤ q) (yO : Nat) (xX : Nat) (xT : Nat) (xW : Nat) (xR : Nat) (xM : Nat) (xS : Nat) (vs1 : Value) (vs2 : Value) (vs4 : Value) (vs5 : Value) (vs6 : Value) (vs7 : Value) (vs8 : Value) (vs9 : Value) (vs10 : Value) (yM : Nat) (yT : Nat) (yF : Nat) (vq5 : Value) (vq9 : Value) (vq10 : Value) (vq11 : Value) (vq12 : Value) (vq13 : Value) (vq14 : Value) (vq15 : Value) (vq16 : Value) (vq17 : Value) (vq18 : Value) (yC : Nat) (vq20 : Value) (vq21 : Value) (vq22 : Value) (vq23 : Value) (vq24 : Value) (vq25 : Value) (vq26 : Value) (vq27 : Value) (vq28 : Value) (vq29 : Value) (vq30 : Value) (vq31 : Value) (yL : Nat) (yD : Nat) (yB : Nat) (vq50 : Value) (vq51 : Value) (vq52 : Value) (vq53 : Value) (vq54 : Value) (vq55 : Value) (vq56 : Value) (vq57 : Value) (vq64 : Value) (vq65 : Value) (vq68 : Value) (vq69 : Value) (vq70 : Value) (vq71 : Value) (vq72 : Value) (vq73 : Value) (vq74 : Value) (vq75 : Value) (vq76 : Value) (vq77 : Value) (vq78 : Value) (vq79 : Value) (vq80 : Value) (vq81 : Value) (vq82 : Value) (vq83 : Value) (vq88 : Value) (vq90 : Value) (vq91 : Value) (vq92 : Value) (vq93 : Value) (vq94 : Value) (H : Heap) (locs : List Loc) (hK : va_K (dC, dI) vwCl [] s) (hP : va_P (dC, dI) vwCl [(xX, .inr (11, [.ref xT, .int 0, .ref xW, .ref xR, .ref xM, .ref xS, .int (-1), .int 0, .int (-1)])), (xS, .inr (6, [.ref xW, vs1, vs2, .int 0, vs4, vs5, vs6, vs7, vs8, vs9, vs10, .int 0, .int 0, .int 0])), (yM, .inr (12, [.int 0, .ref yT, .int 0, .int 0, .ref yF, vq5, .int 0, .int 0, .int 0, vq9, vq10, vq11, vq12, vq13, vq14, vq15, vq16, vq17, vq18, .ref yC, vq20, vq21, vq22, vq23, vq24, vq25, vq26, vq27, vq28, vq29, vq30, vq31, .int 0, .int 0, .int 0, .int 0, .int 0, .int 0, .int 0, .int 0, .int 0, .int 0, .int 0, .int 0, .int 0, .int 0, .long 0, .ref yL, .ref yD, .ref yB, vq50, vq51, vq52, vq53, vq54, vq55, vq56, vq57, .int 0, .int 0, .int 0, .int 0, .int 0, .int 0, vq64, vq65, .int (-1), .int (-1), vq68, vq69, vq70, vq71, vq72, vq73, vq74, vq75, vq76, vq77, vq78, vq79, vq80, vq81, vq82, vq83, .int 0, .int 0, .int (-1), .int 0, vq88, .int 0, vq90, vq91, vq92, vq93, vq94, .int 0]))] H) (hD : va_D A [(xX, .inr (11, [.ref xT, .int 0, .ref xW, .ref xR, .ref xM, .ref xS, .int (-1), .int 0, .int (-1)])), (xS, .inr (6, [.ref xW, vs1, vs2, .int 0, vs4, vs5, vs6, vs7, vs8, vs9, vs10, .int 0, .int 0, .int 0])), (yM, .inr (12, [.int 0, .ref yT, .int 0, .int 0, .ref yF, vq5, .int 0, .int 0, .int 0, vq9, vq10, vq11, vq12, vq13, vq14, vq15, vq16, vq17, vq18, .ref yC, vq20, vq21, vq22, vq23, vq24, vq25, vq26, vq27, vq28, vq29, vq30, vq31, .int 0, .int 0, .int 0, .int 0, .int 0, .int 0, .int 0, .int 0, .int 0, .int 0, .int 0, .int 0, .int 0, .int 0, .long 0, .ref yL, .ref yD, .ref yB, vq50, vq51, vq52, vq53, vq54, vq55, vq56, vq57, .int 0, .int 0, .int 0, .int 0, .int 0, .int 0, vq64, vq65, .int (-1), .int (-1), vq68, vq69, vq70, vq71, vq72, vq73, vq74, vq75, vq76, vq77, vq78, vq79, vq80, vq81, vq82, vq83, .int 0, .int 0, .int (-1), .int 0, vq88, .int 0, vq90, vq91, vq92, vq93, vq94, .int 0]))]) (hS : va_S A s.heap H locs) (ls : Array Slot) (hl : lv_has ls 7 [(0, .ref b), (1, .ref xX), (2, .ref yM), (3, .ref yO), (4, .int 0)]) : W p l e room_1 s m #[Value.ref b] below meth c H locs 156 13846 (lw_Z below #[Value.ref b] s) (F0 m 992 ls []) := by
  obtain ⟨hx, hb, hr, hml, hown, hts0, hX, hbl, hlocks, hgv⟩ := id C0
  have hb : c.code = cL_law := hb
  have hown : s.vm.findClass RL = some m.cls := hown
  have hts : ∀ w ∈ (.initialized RL :: lw_good : List Cond), w.before #[Value.ref b] s = true := fun w h => (List.mem_cons.mp h).elim (fun q => by rw [q]; exact hts0 _ (lwgT kw_1_0)) (fun q => hts0 w (lwgT q))
  have hA : ∀ q : Nat, s.heap.size ≤ q → A q := fun q h => by rw [hAe]; exact h
  have hbA : ¬ A b := by rw [hAe]; exact Nat.not_le.mpr hbl
  refine lv_aload_n hx hb dL_law_992 rfl (lv_at hl 1 rfl) ?_
  refine lv_aload_n hx hb dL_law_993 rfl (lv_at hl 0 rfl) ?_
  refine lv_iload hx hb dL_law_994 (lv_at hl 4 rfl) ?_
  refine lv_iconst (v := 1) hx hb dL_law_996 (by decide) ?_
  refine lv_iadd hx hb dL_law_997 ?_
  refine my_ti (y := 1) (by decide) ?_
  refine va_sld hx hb hX hbl hbA hS (by rw [hL7]; unfold vp_in; decide) dL_law_998 ?_
  refine lv_topi (fun v_1 ev_1 => ?_)
  have hPc := hP.sub (ws' := [(xX, .inr (11, [.ref xT, .int 0, .ref xW, .ref xR, .ref xM, .ref xS, .int (-1), .int 0, .int (-1)])), (xS, .inr (6, [.ref xW, vs1, vs2, .int 0, vs4, vs5, vs6, vs7, vs8, vs9, vs10, .int 0, .int 0, .int 0]))]) [0, 1] rfl
  have hDc := hD.sub (ws' := [(xX, .inr (11, [.ref xT, .int 0, .ref xW, .ref xR, .ref xM, .ref xS, .int (-1), .int 0, .int (-1)])), (xS, .inr (6, [.ref xW, vs1, vs2, .int 0, vs4, vs5, vs6, vs7, vs8, vs9, vs10, .int 0, .int 0, .int 0]))]) [0, 1] (by decide) rfl
  have hKc := hK.sub (tys' := []) [] rfl
  have hFc := va_free (wc := [(xX, .inr (11, [.ref xT, .int 0, .ref xW, .ref xR, .ref xM, .ref xS, .int (-1), .int 0, .int (-1)])), (xS, .inr (6, [.ref xW, vs1, vs2, .int 0, vs4, vs5, vs6, vs7, vs8, vs9, vs10, .int 0, .int 0, .int 0]))]) hD hS hA [0, 1] rfl
  refine va_calli (va_runV (As := [.int v_1]) (rest := []) ⟨hx, hb, hml, hown, hts⟩ (x_seatedAt l dC dI H.size v_1 xX xT xW xR xM xS (vs1 : Value) (vs2 : Value) (vs4 : Value) (vs5 : Value) (vs6 : Value) (vs7 : Value) (vs8 : Value) (vs9 : Value) (vs10 : Value)) (cwV 1 hts (gV kw_6_53 kw_6_54 kw_6_55 kw_1_1 kw_6_56) rfl rfl rfl (by decide +kernel) ⟨Nat.le_of_ble_eq_true rfl, Nat.le_of_ble_eq_true rfl⟩) ⟨fun a U g mk q => by obtain ⟨q0, q1, qP, qK, qD⟩ := q; exact ⟨q0, q1, qP, va_K.moved (u := U) (U := U.calling g mk a) (Vm.Alike.refl U.vm) qK, qD⟩, va_recv hKc hPc (ci := 11) (q0 := 0) rfl rfl, fun U hU hW => ⟨rfl, by rw [hU], by rw [hU]; exact hPc, va_K.moved hW.alike hKc, hDc.weaken (fun _ _ _ _ => trivial)⟩⟩ rfl rfl hl.1 rfl (lv_room (Nat.le_of_ble_eq_true rfl)) dL_law_999 ⟨Nat.le_of_ble_eq_true rfl, Nat.le_of_ble_eq_true rfl⟩) hS (fun q _ h => hFc q h) hFc (fun r_2 u t H1 locs ht hvm hw hB hz1 hk1 hS => ?_)
  obtain ⟨hP, hD⟩ := va_join (wr := [(yM, .inr (12, [.int 0, .ref yT, .int 0, .int 0, .ref yF, vq5, .int 0, .int 0, .int 0, vq9, vq10, vq11, vq12, vq13, vq14, vq15, vq16, vq17, vq18, .ref yC, vq20, vq21, vq22, vq23, vq24, vq25, vq26, vq27, vq28, vq29, vq30, vq31, .int 0, .int 0, .int 0, .int 0, .int 0, .int 0, .int 0, .int 0, .int 0, .int 0, .int 0, .int 0, .int 0, .int 0, .long 0, .ref yL, .ref yD, .ref yB, vq50, vq51, vq52, vq53, vq54, vq55, vq56, vq57, .int 0, .int 0, .int 0, .int 0, .int 0, .int 0, vq64, vq65, .int (-1), .int (-1), vq68, vq69, vq70, vq71, vq72, vq73, vq74, vq75, vq76, vq77, vq78, vq79, vq80, vq81, vq82, vq83, .int 0, .int 0, .int (-1), .int 0, vq88, .int 0, vq90, vq91, vq92, vq93, vq94, .int 0]))]) (w1 := []) hP hD [0, 1] [2] rfl rfl (by decide) (by decide) hk1 hFc (fun k q h => by simp at h) ⟨fun i j p q h => by simp at h, fun k q h => by simp at h⟩
  have hK := hK.sub (tys' := []) [] rfl
  generalize H1 = H at hP hS ⊢
  have hP : va_P (dC, dI) vwCl [(yM, .inr (12, [.int 0, .ref yT, .int 0, .int 0, .ref yF, vq5, .int 0, .int 0, .int 0, vq9, vq10, vq11, vq12, vq13, vq14, vq15, vq16, vq17, vq18, .ref yC, vq20, vq21, vq22, vq23, vq24, vq25, vq26, vq27, vq28, vq29, vq30, vq31, .int 0, .int 0, .int 0, .int 0, .int 0, .int 0, .int 0, .int 0, .int 0, .int 0, .int 0, .int 0, .int 0, .int 0, .long 0, .ref yL, .ref yD, .ref yB, vq50, vq51, vq52, vq53, vq54, vq55, vq56, vq57, .int 0, .int 0, .int 0, .int 0, .int 0, .int 0, vq64, vq65, .int (-1), .int (-1), vq68, vq69, vq70, vq71, vq72, vq73, vq74, vq75, vq76, vq77, vq78, vq79, vq80, vq81, vq82, vq83, .int 0, .int 0, .int (-1), .int 0, vq88, .int 0, vq90, vq91, vq92, vq93, vq94, .int 0]))] H := hP
  have hD : va_D A [(yM, .inr (12, [.int 0, .ref yT, .int 0, .int 0, .ref yF, vq5, .int 0, .int 0, .int 0, vq9, vq10, vq11, vq12, vq13, vq14, vq15, vq16, vq17, vq18, .ref yC, vq20, vq21, vq22, vq23, vq24, vq25, vq26, vq27, vq28, vq29, vq30, vq31, .int 0, .int 0, .int 0, .int 0, .int 0, .int 0, .int 0, .int 0, .int 0, .int 0, .int 0, .int 0, .int 0, .int 0, .long 0, .ref yL, .ref yD, .ref yB, vq50, vq51, vq52, vq53, vq54, vq55, vq56, vq57, .int 0, .int 0, .int 0, .int 0, .int 0, .int 0, vq64, vq65, .int (-1), .int (-1), vq68, vq69, vq70, vq71, vq72, vq73, vq74, vq75, vq76, vq77, vq78, vq79, vq80, vq81, vq82, vq83, .int 0, .int 0, .int (-1), .int 0, vq88, .int 0, vq90, vq91, vq92, vq93, vq94, .int 0]))] := hD
  have hK : va_K (dC, dI) vwCl [] s := hK
  subst hw
  refine lv_aload_n hx hb dL_law_1002 rfl (lv_at hl 2 rfl) ?_
  refine lv_aload_n hx hb dL_law_1003 rfl (lv_at hl 0 rfl) ?_
  refine lv_iload hx hb dL_law_1004 (lv_at hl 4 rfl) ?_
  refine lv_iconst (v := 1) hx hb dL_law_1006 (by decide) ?_
  refine lv_iadd hx hb dL_law_1007 ?_
  refine my_ti (y := 1) (by decide) ?_
  refine va_sld hx hb hX hbl hbA hS (by rw [hL7]; unfold vp_in; decide) dL_law_1008 ?_
  refine lv_topi (fun v_4 ev_4 => ?_)
  have hPc := hP.sub (ws' := [(yM, .inr (12, [.int 0, .ref yT, .int 0, .int 0, .ref yF, vq5, .int 0, .int 0, .int 0, vq9, vq10, vq11, vq12, vq13, vq14, vq15, vq16, vq17, vq18, .ref yC, vq20, vq21, vq22, vq23, vq24, vq25, vq26, vq27, vq28, vq29, vq30, vq31, .int 0, .int 0, .int 0, .int 0, .int 0, .int 0, .int 0, .int 0, .int 0, .int 0, .int 0, .int 0, .int 0, .int 0, .long 0, .ref yL, .ref yD, .ref yB, vq50, vq51, vq52, vq53, vq54, vq55, vq56, vq57, .int 0, .int 0, .int 0, .int 0, .int 0, .int 0, vq64, vq65, .int (-1), .int (-1), vq68, vq69, vq70, vq71, vq72, vq73, vq74, vq75, vq76, vq77, vq78, vq79, vq80, vq81, vq82, vq83, .int 0, .int 0, .int (-1), .int 0, vq88, .int 0, vq90, vq91, vq92, vq93, vq94, .int 0]))]) [0] rfl
  have hDc := hD.sub (ws' := [(yM, .inr (12, [.int 0, .ref yT, .int 0, .int 0, .ref yF, vq5, .int 0, .int 0, .int 0, vq9, vq10, vq11, vq12, vq13, vq14, vq15, vq16, vq17, vq18, .ref yC, vq20, vq21, vq22, vq23, vq24, vq25, vq26, vq27, vq28, vq29, vq30, vq31, .int 0, .int 0, .int 0, .int 0, .int 0, .int 0, .int 0, .int 0, .int 0, .int 0, .int 0, .int 0, .int 0, .int 0, .long 0, .ref yL, .ref yD, .ref yB, vq50, vq51, vq52, vq53, vq54, vq55, vq56, vq57, .int 0, .int 0, .int 0, .int 0, .int 0, .int 0, vq64, vq65, .int (-1), .int (-1), vq68, vq69, vq70, vq71, vq72, vq73, vq74, vq75, vq76, vq77, vq78, vq79, vq80, vq81, vq82, vq83, .int 0, .int 0, .int (-1), .int 0, vq88, .int 0, vq90, vq91, vq92, vq93, vq94, .int 0]))]) [0] (by decide) rfl
  have hKc := hK.sub (tys' := []) [] rfl
  have hFc := va_free (wc := [(yM, .inr (12, [.int 0, .ref yT, .int 0, .int 0, .ref yF, vq5, .int 0, .int 0, .int 0, vq9, vq10, vq11, vq12, vq13, vq14, vq15, vq16, vq17, vq18, .ref yC, vq20, vq21, vq22, vq23, vq24, vq25, vq26, vq27, vq28, vq29, vq30, vq31, .int 0, .int 0, .int 0, .int 0, .int 0, .int 0, .int 0, .int 0, .int 0, .int 0, .int 0, .int 0, .int 0, .int 0, .long 0, .ref yL, .ref yD, .ref yB, vq50, vq51, vq52, vq53, vq54, vq55, vq56, vq57, .int 0, .int 0, .int 0, .int 0, .int 0, .int 0, vq64, vq65, .int (-1), .int (-1), vq68, vq69, vq70, vq71, vq72, vq73, vq74, vq75, vq76, vq77, vq78, vq79, vq80, vq81, vq82, vq83, .int 0, .int 0, .int (-1), .int 0, vq88, .int 0, vq90, vq91, vq92, vq93, vq94, .int 0]))]) hD hS hA [0] rfl
  refine va_calli (va_runV (As := [.int v_4]) (rest := [.int (-1)]) ⟨hx, hb, hml, hown, hts⟩ (m_seatedAt l dC dI H.size v_4 yM yT yF (vq5 : Value) (vq9 : Value) (vq10 : Value) (vq11 : Value) (vq12 : Value) (vq13 : Value) (vq14 : Value) (vq15 : Value) (vq16 : Value) (vq17 : Value) (vq18 : Value) yC (vq20 : Value) (vq21 : Value) (vq22 : Value) (vq23 : Value) (vq24 : Value) (vq25 : Value) (vq26 : Value) (vq27 : Value) (vq28 : Value) (vq29 : Value) (vq30 : Value) (vq31 : Value) yL yD yB (vq50 : Value) (vq51 : Value) (vq52 : Value) (vq53 : Value) (vq54 : Value) (vq55 : Value) (vq56 : Value) (vq57 : Value) (vq64 : Value) (vq65 : Value) (vq68 : Value) (vq69 : Value) (vq70 : Value) (vq71 : Value) (vq72 : Value) (vq73 : Value) (vq74 : Value) (vq75 : Value) (vq76 : Value) (vq77 : Value) (vq78 : Value) (vq79 : Value) (vq80 : Value) (vq81 : Value) (vq82 : Value) (vq83 : Value) (vq88 : Value) (vq90 : Value) (vq91 : Value) (vq92 : Value) (vq93 : Value) (vq94 : Value)) (cwV 1 hts (gV kw_9_29 kw_9_30 kw_9_31 kw_1_15 kw_9_32) rfl rfl rfl (by decide +kernel) ⟨Nat.le_of_ble_eq_true rfl, Nat.le_of_ble_eq_true rfl⟩) ⟨fun a U g mk q => by obtain ⟨q0, q1, qP, qK, qD⟩ := q; exact ⟨q0, q1, qP, va_K.moved (u := U) (U := U.calling g mk a) (Vm.Alike.refl U.vm) qK, qD⟩, va_recv hKc hPc (ci := 12) (q0 := 0) rfl rfl, fun U hU hW => ⟨rfl, by rw [hU], by rw [hU]; exact hPc, va_K.moved hW.alike hKc, hDc.weaken (fun _ _ _ _ => trivial)⟩⟩ rfl rfl hl.1 rfl (lv_room (Nat.le_of_ble_eq_true rfl)) dL_law_1009 ⟨Nat.le_of_ble_eq_true rfl, Nat.le_of_ble_eq_true rfl⟩) hS (fun q _ h => hFc q h) hFc (fun r_5 u t H1 locs ht hvm hw hB hz1 hk1 hS => ?_)
  obtain ⟨hP, hD⟩ := va_join (wr := []) (w1 := []) hP hD [0] [] rfl rfl (by decide) (by decide) hk1 hFc (fun k q h => by simp at h) ⟨fun i j p q h => by simp at h, fun k q h => by simp at h⟩
  have hK := hK.sub (tys' := []) [] rfl
  generalize H1 = H at hP hS ⊢
  have hP : va_P (dC, dI) vwCl [] H := hP
  have hD : va_D A [] := hD
  have hK : va_K (dC, dI) vwCl [] s := hK
  subst hw
  refine lv_icmp_eq (tgt := 1042) hx hb dL_law_1012 (by decide) (fun c_7 => ?_) (fun c_7 => ?_)
  rotate_left
  · exact (c_7 (by decide)).elim
  refine lv_iinc (v := 7) (lv' := [(4, .int 7), (0, .ref b), (1, .ref xX), (2, .ref yM), (3, .ref yO)]) hx hb dL_law_1042 hl (k := 4) rfl (by decide) (by decide) rfl (fun ls hl => ?_)
  refine lv_goto (tgt := 23) hx hb dL_law_1045 (by decide) ?_
  refine lv_iload hx hb dL_law_23 (lv_at hl 0 rfl) ?_
  refine lv_aload_n hx hb dL_law_25 rfl (lv_at hl 1 rfl) ?_
  refine va_slen hx hb hX hbl hbA hS dL_law_26 ?_
  refine my_ti (y := 7) (by rw [hL7]; rfl) ?_
  refine lv_bipush (v := 7) hx hb dL_law_27 (by decide) ?_
  refine lv_isub hx hb dL_law_29 ?_
  refine my_ti (y := 0) (by decide) ?_
  refine lv_icmp_gt (tgt := 1048) hx hb dL_law_30 (by decide) (fun c_8 => ?_) (fun c_8 => ?_)
  rotate_left
  · exact (c_8 (by decide)).elim
  refine lv_iconst (v := 1) hx hb dL_law_1048 (by decide) ?_
  refine va_forget (fun q hq => by have h9 := hS.2.2 q hq; rw [hAe] at h9; exact h9) ?_
  refine W.widen (k := 600002) (n := 7302232) (Nat.le_of_ble_eq_true rfl) (Nat.le_of_ble_eq_true rfl) ?_
  exact lw_ret hx hb hr hlocks dL_law_1049
set_option maxHeartbeats 4000000 in
set_option maxRecDepth 100000 in
theorem law_24 {p : Program} {e : Env} {s : State} {m : MethodId} {below : List Frame} {meth : Method} {c : Code} (l : Launch) {b L : Nat} {xs : Nat → Int32} (hL7 : L = 7) (C0 : lw_At p s m meth c b L xs) (dC : Nat → ClassId) (dI : Nat → Nat → Nat) (A : Nat → Prop) (hAe : A = fun q => s.heap.size ≤ q) (yO : Nat) (xX : Nat) (xT : Nat) (xW : Nat) (xR : Nat) (xM : Nat) (xS : Nat) (xRo : Nat) (xPe : Nat) (xWh : Nat) (xTr : Nat) (xCo : Nat) (xAl : Nat) (xNl : Nat) (xDr : Nat) (xFa : Nat) (vp1 : Value) (vp2 : Value) (vp3 : Value) (vp4 : Value) (vp5 : Value) (vp6 : Value) (vp7 : Value) (vp8 : Value) (vp9 : Value) (vp10 : Value) (vp11 : Value) (vp12 : Value) (vp13 : Value) (vp14 : Value) (vh1 : Value) (vh2 : Value) (vh3 : Value) (vh4 : Value) (vh5 : Value) (vh6 : Value) (vh7 : Value) (vh8 : Value) (vt1 : Value) (vt2 : Value) (vt3 : Value) (vt4 : Value) (vt5 : Value) (vt6 : Value) (vt7 : Value) (vt8 : Value) (tD : Nat) (yM : Nat) (yT : Nat) (yF : Nat) (vq5 : Value) (vq9 : Value) (vq10 : Value) (vq11 : Value) (vq12 : Value) (vq13 : Value) (vq14 : Value) (vq15 : Value) (vq16 : Value) (vq17 : Value) (vq18 : Value) (yC : Nat) (vq20 : Value) (vq21 : Value) (vq22 : Value) (vq23 : Value) (vq24 : Value) (vq25 : Value) (vq26 : Value) (vq27 : Value) (vq28 : Value) (vq29 : Value) (vq30 : Value) (vq31 : Value) (yL : Nat) (yD : Nat) (yB : Nat) (vq50 : Value) (vq51 : Value) (vq52 : Value) (vq53 : Value) (vq54 : Value) (vq55 : Value) (vq56 : Value) (vq57 : Value) (vq64 : Value) (vq65 : Value) (vq68 : Value) (vq69 : Value) (vq70 : Value) (vq71 : Value) (vq72 : Value) (vq73 : Value) (vq74 : Value) (vq75 : Value) (vq76 : Value) (vq77 : Value) (vq78 : Value) (vq79 : Value) (vq80 : Value) (vq81 : Value) (vq82 : Value) (vq83 : Value) (vq88 : Value) (vq90 : Value) (vq91 : Value) (vq92 : Value) (vq93 : Value) (vq94 : Value) (H : Heap) (locs : List Loc) (hK : va_K (dC, dI) vwCl [] s) (hP : va_P (dC, dI) vwCl [(xX, .inr (11, [.ref xT, .int 0, .ref xW, .ref xR, .ref xM, .ref xS, .int (-1), .int 0, .int (-1)])), (xW, .inr (7, [.ref xRo, .ref xPe, .ref xWh, .ref xTr, .ref xCo, .int 0, .ref xAl, .ref xNl, .ref xDr, .int 0, .ref xFa, .int 0, .int 0, .int 0])), (xPe, .inr (3, [.int 0, vp1, vp2, vp3, vp4, vp5, vp6, vp7, vp8, vp9, vp10, vp11, vp12, vp13, vp14])), (xWh, .inr (10, [.int 0, vh1, vh2, vh3, vh4, vh5, vh6, vh7, vh8])), (xTr, .inr (8, [.int 0, vt1, vt2, vt3, vt4, vt5, vt6, vt7, vt8])), (xAl, .inr (0, [.int 0, .ref tD, .int 0])), (yM, .inr (12, [.int 0, .ref yT, .int 0, .int 0, .ref yF, vq5, .int 0, .int 0, .int 0, vq9, vq10, vq11, vq12, vq13, vq14, vq15, vq16, vq17, vq18, .ref yC, vq20, vq21, vq22, vq23, vq24, vq25, vq26, vq27, vq28, vq29, vq30, vq31, .int 0, .int 0, .int 0, .int 0, .int 0, .int 0, .int 0, .int 0, .int 0, .int 0, .int 0, .int 0, .int 0, .int 0, .long 0, .ref yL, .ref yD, .ref yB, vq50, vq51, vq52, vq53, vq54, vq55, vq56, vq57, .int 0, .int 0, .int 0, .int 0, .int 0, .int 0, vq64, vq65, .int (-1), .int (-1), vq68, vq69, vq70, vq71, vq72, vq73, vq74, vq75, vq76, vq77, vq78, vq79, vq80, vq81, vq82, vq83, .int 0, .int 0, .int (-1), .int 0, vq88, .int 0, vq90, vq91, vq92, vq93, vq94, .int 0]))] H) (hD : va_D A [(xX, .inr (11, [.ref xT, .int 0, .ref xW, .ref xR, .ref xM, .ref xS, .int (-1), .int 0, .int (-1)])), (xW, .inr (7, [.ref xRo, .ref xPe, .ref xWh, .ref xTr, .ref xCo, .int 0, .ref xAl, .ref xNl, .ref xDr, .int 0, .ref xFa, .int 0, .int 0, .int 0])), (xPe, .inr (3, [.int 0, vp1, vp2, vp3, vp4, vp5, vp6, vp7, vp8, vp9, vp10, vp11, vp12, vp13, vp14])), (xWh, .inr (10, [.int 0, vh1, vh2, vh3, vh4, vh5, vh6, vh7, vh8])), (xTr, .inr (8, [.int 0, vt1, vt2, vt3, vt4, vt5, vt6, vt7, vt8])), (xAl, .inr (0, [.int 0, .ref tD, .int 0])), (yM, .inr (12, [.int 0, .ref yT, .int 0, .int 0, .ref yF, vq5, .int 0, .int 0, .int 0, vq9, vq10, vq11, vq12, vq13, vq14, vq15, vq16, vq17, vq18, .ref yC, vq20, vq21, vq22, vq23, vq24, vq25, vq26, vq27, vq28, vq29, vq30, vq31, .int 0, .int 0, .int 0, .int 0, .int 0, .int 0, .int 0, .int 0, .int 0, .int 0, .int 0, .int 0, .int 0, .int 0, .long 0, .ref yL, .ref yD, .ref yB, vq50, vq51, vq52, vq53, vq54, vq55, vq56, vq57, .int 0, .int 0, .int 0, .int 0, .int 0, .int 0, vq64, vq65, .int (-1), .int (-1), vq68, vq69, vq70, vq71, vq72, vq73, vq74, vq75, vq76, vq77, vq78, vq79, vq80, vq81, vq82, vq83, .int 0, .int 0, .int (-1), .int 0, vq88, .int 0, vq90, vq91, vq92, vq93, vq94, .int 0]))]) (hS : va_S A s.heap H locs) (ls : Array Slot) (hl : lv_has ls 7 [(0, .ref b), (1, .ref xX), (2, .ref yM), (3, .ref yO), (4, .int 0)]) : W p l e room_1 s m #[Value.ref b] below meth c H locs 156 13846 (lw_Z below #[Value.ref b] s) (F0 m 1017 ls []) := by
  obtain ⟨hx, hb, hr, hml, hown, hts0, hX, hbl, hlocks, hgv⟩ := id C0
  have hb : c.code = cL_law := hb
  have hown : s.vm.findClass RL = some m.cls := hown
  have hts : ∀ w ∈ (.initialized RL :: lw_good : List Cond), w.before #[Value.ref b] s = true := fun w h => (List.mem_cons.mp h).elim (fun q => by rw [q]; exact hts0 _ (lwgT kw_1_0)) (fun q => hts0 w (lwgT q))
  have hA : ∀ q : Nat, s.heap.size ≤ q → A q := fun q h => by rw [hAe]; exact h
  have hbA : ¬ A b := by rw [hAe]; exact Nat.not_le.mpr hbl
  refine lv_aload_n hx hb dL_law_1017 rfl (lv_at hl 1 rfl) ?_
  refine lv_aload_n hx hb dL_law_1018 rfl (lv_at hl 0 rfl) ?_
  refine lv_iload hx hb dL_law_1019 (lv_at hl 4 rfl) ?_
  refine lv_iconst (v := 1) hx hb dL_law_1021 (by decide) ?_
  refine lv_iadd hx hb dL_law_1022 ?_
  refine my_ti (y := 1) (by decide) ?_
  refine va_sld hx hb hX hbl hbA hS (by rw [hL7]; unfold vp_in; decide) dL_law_1023 ?_
  refine lv_topi (fun v_1 ev_1 => ?_)
  have hPc := hP.sub (ws' := [(xX, .inr (11, [.ref xT, .int 0, .ref xW, .ref xR, .ref xM, .ref xS, .int (-1), .int 0, .int (-1)])), (xW, .inr (7, [.ref xRo, .ref xPe, .ref xWh, .ref xTr, .ref xCo, .int 0, .ref xAl, .ref xNl, .ref xDr, .int 0, .ref xFa, .int 0, .int 0, .int 0])), (xPe, .inr (3, [.int 0, vp1, vp2, vp3, vp4, vp5, vp6, vp7, vp8, vp9, vp10, vp11, vp12, vp13, vp14])), (xWh, .inr (10, [.int 0, vh1, vh2, vh3, vh4, vh5, vh6, vh7, vh8])), (xTr, .inr (8, [.int 0, vt1, vt2, vt3, vt4, vt5, vt6, vt7, vt8])), (xAl, .inr (0, [.int 0, .ref tD, .int 0]))]) [0, 1, 2, 3, 4, 5] rfl
  have hDc := hD.sub (ws' := [(xX, .inr (11, [.ref xT, .int 0, .ref xW, .ref xR, .ref xM, .ref xS, .int (-1), .int 0, .int (-1)])), (xW, .inr (7, [.ref xRo, .ref xPe, .ref xWh, .ref xTr, .ref xCo, .int 0, .ref xAl, .ref xNl, .ref xDr, .int 0, .ref xFa, .int 0, .int 0, .int 0])), (xPe, .inr (3, [.int 0, vp1, vp2, vp3, vp4, vp5, vp6, vp7, vp8, vp9, vp10, vp11, vp12, vp13, vp14])), (xWh, .inr (10, [.int 0, vh1, vh2, vh3, vh4, vh5, vh6, vh7, vh8])), (xTr, .inr (8, [.int 0, vt1, vt2, vt3, vt4, vt5, vt6, vt7, vt8])), (xAl, .inr (0, [.int 0, .ref tD, .int 0]))]) [0, 1, 2, 3, 4, 5] (by decide) rfl
  have hKc := hK.sub (tys' := []) [] rfl
  have hFc := va_free (wc := [(xX, .inr (11, [.ref xT, .int 0, .ref xW, .ref xR, .ref xM, .ref xS, .int (-1), .int 0, .int (-1)])), (xW, .inr (7, [.ref xRo, .ref xPe, .ref xWh, .ref xTr, .ref xCo, .int 0, .ref xAl, .ref xNl, .ref xDr, .int 0, .ref xFa, .int 0, .int 0, .int 0])), (xPe, .inr (3, [.int 0, vp1, vp2, vp3, vp4, vp5, vp6, vp7, vp8, vp9, vp10, vp11, vp12, vp13, vp14])), (xWh, .inr (10, [.int 0, vh1, vh2, vh3, vh4, vh5, vh6, vh7, vh8])), (xTr, .inr (8, [.int 0, vt1, vt2, vt3, vt4, vt5, vt6, vt7, vt8])), (xAl, .inr (0, [.int 0, .ref tD, .int 0]))]) hD hS hA [0, 1, 2, 3, 4, 5] rfl
  refine va_calli (va_runV (As := [.int v_1]) (rest := []) ⟨hx, hb, hml, hown, hts⟩ (x_count l dC dI H.size v_1 xX xT xW xR xM xS xRo xPe xWh xTr xCo xAl xNl xDr xFa (vp1 : Value) (vp2 : Value) (vp3 : Value) (vp4 : Value) (vp5 : Value) (vp6 : Value) (vp7 : Value) (vp8 : Value) (vp9 : Value) (vp10 : Value) (vp11 : Value) (vp12 : Value) (vp13 : Value) (vp14 : Value) (vh1 : Value) (vh2 : Value) (vh3 : Value) (vh4 : Value) (vh5 : Value) (vh6 : Value) (vh7 : Value) (vh8 : Value) (vt1 : Value) (vt2 : Value) (vt3 : Value) (vt4 : Value) (vt5 : Value) (vt6 : Value) (vt7 : Value) (vt8 : Value) tD) (cwV 1 hts (gV kw_6_57 kw_6_58 kw_6_59 kw_1_1 kw_6_60) rfl rfl rfl (by decide +kernel) ⟨Nat.le_of_ble_eq_true rfl, Nat.le_of_ble_eq_true rfl⟩) ⟨fun a U g mk q => by obtain ⟨q0, q1, qP, qK, qD⟩ := q; exact ⟨q0, q1, qP, va_K.moved (u := U) (U := U.calling g mk a) (Vm.Alike.refl U.vm) qK, qD⟩, va_recv hKc hPc (ci := 11) (q0 := 0) rfl rfl, fun U hU hW => ⟨rfl, by rw [hU], by rw [hU]; exact hPc, va_K.moved hW.alike hKc, hDc.weaken (fun _ _ _ _ => trivial)⟩⟩ rfl rfl hl.1 rfl (lv_room (Nat.le_of_ble_eq_true rfl)) dL_law_1024 ⟨Nat.le_of_ble_eq_true rfl, Nat.le_of_ble_eq_true rfl⟩) hS (fun q _ h => hFc q h) hFc (fun r_2 u t H1 locs ht hvm hw hB hz1 hk1 hS => ?_)
  obtain ⟨hP, hD⟩ := va_join (wr := [(yM, .inr (12, [.int 0, .ref yT, .int 0, .int 0, .ref yF, vq5, .int 0, .int 0, .int 0, vq9, vq10, vq11, vq12, vq13, vq14, vq15, vq16, vq17, vq18, .ref yC, vq20, vq21, vq22, vq23, vq24, vq25, vq26, vq27, vq28, vq29, vq30, vq31, .int 0, .int 0, .int 0, .int 0, .int 0, .int 0, .int 0, .int 0, .int 0, .int 0, .int 0, .int 0, .int 0, .int 0, .long 0, .ref yL, .ref yD, .ref yB, vq50, vq51, vq52, vq53, vq54, vq55, vq56, vq57, .int 0, .int 0, .int 0, .int 0, .int 0, .int 0, vq64, vq65, .int (-1), .int (-1), vq68, vq69, vq70, vq71, vq72, vq73, vq74, vq75, vq76, vq77, vq78, vq79, vq80, vq81, vq82, vq83, .int 0, .int 0, .int (-1), .int 0, vq88, .int 0, vq90, vq91, vq92, vq93, vq94, .int 0]))]) (w1 := []) hP hD [0, 1, 2, 3, 4, 5] [6] rfl rfl (by decide) (by decide) hk1 hFc (fun k q h => by simp at h) ⟨fun i j p q h => by simp at h, fun k q h => by simp at h⟩
  have hK := hK.sub (tys' := []) [] rfl
  generalize H1 = H at hP hS ⊢
  have hP : va_P (dC, dI) vwCl [(yM, .inr (12, [.int 0, .ref yT, .int 0, .int 0, .ref yF, vq5, .int 0, .int 0, .int 0, vq9, vq10, vq11, vq12, vq13, vq14, vq15, vq16, vq17, vq18, .ref yC, vq20, vq21, vq22, vq23, vq24, vq25, vq26, vq27, vq28, vq29, vq30, vq31, .int 0, .int 0, .int 0, .int 0, .int 0, .int 0, .int 0, .int 0, .int 0, .int 0, .int 0, .int 0, .int 0, .int 0, .long 0, .ref yL, .ref yD, .ref yB, vq50, vq51, vq52, vq53, vq54, vq55, vq56, vq57, .int 0, .int 0, .int 0, .int 0, .int 0, .int 0, vq64, vq65, .int (-1), .int (-1), vq68, vq69, vq70, vq71, vq72, vq73, vq74, vq75, vq76, vq77, vq78, vq79, vq80, vq81, vq82, vq83, .int 0, .int 0, .int (-1), .int 0, vq88, .int 0, vq90, vq91, vq92, vq93, vq94, .int 0]))] H := hP
  have hD : va_D A [(yM, .inr (12, [.int 0, .ref yT, .int 0, .int 0, .ref yF, vq5, .int 0, .int 0, .int 0, vq9, vq10, vq11, vq12, vq13, vq14, vq15, vq16, vq17, vq18, .ref yC, vq20, vq21, vq22, vq23, vq24, vq25, vq26, vq27, vq28, vq29, vq30, vq31, .int 0, .int 0, .int 0, .int 0, .int 0, .int 0, .int 0, .int 0, .int 0, .int 0, .int 0, .int 0, .int 0, .int 0, .long 0, .ref yL, .ref yD, .ref yB, vq50, vq51, vq52, vq53, vq54, vq55, vq56, vq57, .int 0, .int 0, .int 0, .int 0, .int 0, .int 0, vq64, vq65, .int (-1), .int (-1), vq68, vq69, vq70, vq71, vq72, vq73, vq74, vq75, vq76, vq77, vq78, vq79, vq80, vq81, vq82, vq83, .int 0, .int 0, .int (-1), .int 0, vq88, .int 0, vq90, vq91, vq92, vq93, vq94, .int 0]))] := hD
  have hK : va_K (dC, dI) vwCl [] s := hK
  have h_3 := hw
  refine lv_aload_n hx hb dL_law_1027 rfl (lv_at hl 2 rfl) ?_
  refine lv_aload_n hx hb dL_law_1028 rfl (lv_at hl 0 rfl) ?_
  refine lv_iload hx hb dL_law_1029 (lv_at hl 4 rfl) ?_
  refine lv_iconst (v := 1) hx hb dL_law_1031 (by decide) ?_
  refine lv_iadd hx hb dL_law_1032 ?_
  refine my_ti (y := 1) (by decide) ?_
  refine va_sld hx hb hX hbl hbA hS (by rw [hL7]; unfold vp_in; decide) dL_law_1033 ?_
  refine lv_topi (fun v_4 ev_4 => ?_)
  have hPc := hP.sub (ws' := [(yM, .inr (12, [.int 0, .ref yT, .int 0, .int 0, .ref yF, vq5, .int 0, .int 0, .int 0, vq9, vq10, vq11, vq12, vq13, vq14, vq15, vq16, vq17, vq18, .ref yC, vq20, vq21, vq22, vq23, vq24, vq25, vq26, vq27, vq28, vq29, vq30, vq31, .int 0, .int 0, .int 0, .int 0, .int 0, .int 0, .int 0, .int 0, .int 0, .int 0, .int 0, .int 0, .int 0, .int 0, .long 0, .ref yL, .ref yD, .ref yB, vq50, vq51, vq52, vq53, vq54, vq55, vq56, vq57, .int 0, .int 0, .int 0, .int 0, .int 0, .int 0, vq64, vq65, .int (-1), .int (-1), vq68, vq69, vq70, vq71, vq72, vq73, vq74, vq75, vq76, vq77, vq78, vq79, vq80, vq81, vq82, vq83, .int 0, .int 0, .int (-1), .int 0, vq88, .int 0, vq90, vq91, vq92, vq93, vq94, .int 0]))]) [0] rfl
  have hDc := hD.sub (ws' := [(yM, .inr (12, [.int 0, .ref yT, .int 0, .int 0, .ref yF, vq5, .int 0, .int 0, .int 0, vq9, vq10, vq11, vq12, vq13, vq14, vq15, vq16, vq17, vq18, .ref yC, vq20, vq21, vq22, vq23, vq24, vq25, vq26, vq27, vq28, vq29, vq30, vq31, .int 0, .int 0, .int 0, .int 0, .int 0, .int 0, .int 0, .int 0, .int 0, .int 0, .int 0, .int 0, .int 0, .int 0, .long 0, .ref yL, .ref yD, .ref yB, vq50, vq51, vq52, vq53, vq54, vq55, vq56, vq57, .int 0, .int 0, .int 0, .int 0, .int 0, .int 0, vq64, vq65, .int (-1), .int (-1), vq68, vq69, vq70, vq71, vq72, vq73, vq74, vq75, vq76, vq77, vq78, vq79, vq80, vq81, vq82, vq83, .int 0, .int 0, .int (-1), .int 0, vq88, .int 0, vq90, vq91, vq92, vq93, vq94, .int 0]))]) [0] (by decide) rfl
  have hKc := hK.sub (tys' := []) [] rfl
  have hFc := va_free (wc := [(yM, .inr (12, [.int 0, .ref yT, .int 0, .int 0, .ref yF, vq5, .int 0, .int 0, .int 0, vq9, vq10, vq11, vq12, vq13, vq14, vq15, vq16, vq17, vq18, .ref yC, vq20, vq21, vq22, vq23, vq24, vq25, vq26, vq27, vq28, vq29, vq30, vq31, .int 0, .int 0, .int 0, .int 0, .int 0, .int 0, .int 0, .int 0, .int 0, .int 0, .int 0, .int 0, .int 0, .int 0, .long 0, .ref yL, .ref yD, .ref yB, vq50, vq51, vq52, vq53, vq54, vq55, vq56, vq57, .int 0, .int 0, .int 0, .int 0, .int 0, .int 0, vq64, vq65, .int (-1), .int (-1), vq68, vq69, vq70, vq71, vq72, vq73, vq74, vq75, vq76, vq77, vq78, vq79, vq80, vq81, vq82, vq83, .int 0, .int 0, .int (-1), .int 0, vq88, .int 0, vq90, vq91, vq92, vq93, vq94, .int 0]))]) hD hS hA [0] rfl
  refine va_calli (va_runV (As := [.int v_4]) (rest := [.int r_2]) ⟨hx, hb, hml, hown, hts⟩ (m_count l dC dI H.size v_4 yM yT yF (vq5 : Value) (vq9 : Value) (vq10 : Value) (vq11 : Value) (vq12 : Value) (vq13 : Value) (vq14 : Value) (vq15 : Value) (vq16 : Value) (vq17 : Value) (vq18 : Value) yC (vq20 : Value) (vq21 : Value) (vq22 : Value) (vq23 : Value) (vq24 : Value) (vq25 : Value) (vq26 : Value) (vq27 : Value) (vq28 : Value) (vq29 : Value) (vq30 : Value) (vq31 : Value) yL yD yB (vq50 : Value) (vq51 : Value) (vq52 : Value) (vq53 : Value) (vq54 : Value) (vq55 : Value) (vq56 : Value) (vq57 : Value) (vq64 : Value) (vq65 : Value) (vq68 : Value) (vq69 : Value) (vq70 : Value) (vq71 : Value) (vq72 : Value) (vq73 : Value) (vq74 : Value) (vq75 : Value) (vq76 : Value) (vq77 : Value) (vq78 : Value) (vq79 : Value) (vq80 : Value) (vq81 : Value) (vq82 : Value) (vq83 : Value) (vq88 : Value) (vq90 : Value) (vq91 : Value) (vq92 : Value) (vq93 : Value) (vq94 : Value)) (cwV 1 hts (gV kw_9_33 kw_9_34 kw_9_35 kw_1_15 kw_9_36) rfl rfl rfl (by decide +kernel) ⟨Nat.le_of_ble_eq_true rfl, Nat.le_of_ble_eq_true rfl⟩) ⟨fun a U g mk q => by obtain ⟨q0, q1, qP, qK, qD⟩ := q; exact ⟨q0, q1, qP, va_K.moved (u := U) (U := U.calling g mk a) (Vm.Alike.refl U.vm) qK, qD⟩, va_recv hKc hPc (ci := 12) (q0 := 0) rfl rfl, fun U hU hW => ⟨rfl, by rw [hU], by rw [hU]; exact hPc, va_K.moved hW.alike hKc, hDc.weaken (fun _ _ _ _ => trivial)⟩⟩ rfl rfl hl.1 rfl (lv_room (Nat.le_of_ble_eq_true rfl)) dL_law_1034 ⟨Nat.le_of_ble_eq_true rfl, Nat.le_of_ble_eq_true rfl⟩) hS (fun q _ h => hFc q h) hFc (fun r_5 u t H1 locs ht hvm hw hB hz1 hk1 hS => ?_)
  obtain ⟨hP, hD⟩ := va_join (wr := []) (w1 := []) hP hD [0] [] rfl rfl (by decide) (by decide) hk1 hFc (fun k q h => by simp at h) ⟨fun i j p q h => by simp at h, fun k q h => by simp at h⟩
  have hK := hK.sub (tys' := []) [] rfl
  generalize H1 = H at hP hS ⊢
  have hP : va_P (dC, dI) vwCl [] H := hP
  have hD : va_D A [] := hD
  have hK : va_K (dC, dI) vwCl [] s := hK
  have h_6 := hw
  refine lv_icmp_eq (tgt := 1042) hx hb dL_law_1037 (by decide) (fun c_7 => ?_) (fun c_7 => ?_)
  rotate_left
  · exact (c_7 (by rw [h_3, h_6]; simp only [ev_1, ev_4])).elim
  refine lv_iinc (v := 7) (lv' := [(4, .int 7), (0, .ref b), (1, .ref xX), (2, .ref yM), (3, .ref yO)]) hx hb dL_law_1042 hl (k := 4) rfl (by decide) (by decide) rfl (fun ls hl => ?_)
  refine lv_goto (tgt := 23) hx hb dL_law_1045 (by decide) ?_
  refine lv_iload hx hb dL_law_23 (lv_at hl 0 rfl) ?_
  refine lv_aload_n hx hb dL_law_25 rfl (lv_at hl 1 rfl) ?_
  refine va_slen hx hb hX hbl hbA hS dL_law_26 ?_
  refine my_ti (y := 7) (by rw [hL7]; rfl) ?_
  refine lv_bipush (v := 7) hx hb dL_law_27 (by decide) ?_
  refine lv_isub hx hb dL_law_29 ?_
  refine my_ti (y := 0) (by decide) ?_
  refine lv_icmp_gt (tgt := 1048) hx hb dL_law_30 (by decide) (fun c_8 => ?_) (fun c_8 => ?_)
  rotate_left
  · exact (c_8 (by decide)).elim
  refine lv_iconst (v := 1) hx hb dL_law_1048 (by decide) ?_
  refine va_forget (fun q hq => by have h9 := hS.2.2 q hq; rw [hAe] at h9; exact h9) ?_
  refine W.widen (k := 600002) (n := 7302232) (Nat.le_of_ble_eq_true rfl) (Nat.le_of_ble_eq_true rfl) ?_
  exact lw_ret hx hb hr hlocks dL_law_1049
