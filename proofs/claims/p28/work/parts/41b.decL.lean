theorem dL_isLife_208 : decode cL_isLife 208 = .ok (.bipush 6, 2) := by decide +kernel
theorem dL_isLife_210 : decode cL_isLife 210 = .ok (.if_icmp .ge 21, 3) := by decide +kernel
theorem dL_isLife_213 : decode cL_isLife 213 = .ok (.iload 7, 2) := by decide +kernel
theorem dL_isLife_215 : decode cL_isLife 215 = .ok (.iload 5, 2) := by decide +kernel
theorem dL_isLife_217 : decode cL_isLife 217 = .ok (.iload 8, 2) := by decide +kernel
theorem dL_isLife_219 : decode cL_isLife 219 = .ok (.ishr, 1) := by decide +kernel
theorem dL_isLife_220 : decode cL_isLife 220 = .ok (.iconst 1, 1) := by decide +kernel
theorem dL_isLife_221 : decode cL_isLife 221 = .ok (.iand, 1) := by decide +kernel
theorem dL_isLife_222 : decode cL_isLife 222 = .ok (.iadd, 1) := by decide +kernel
theorem dL_isLife_223 : decode cL_isLife 223 = .ok (.istore 7, 2) := by decide +kernel
theorem dL_isLife_225 : decode cL_isLife 225 = .ok (.iinc 8 1, 3) := by decide +kernel
theorem dL_isLife_228 : decode cL_isLife 228 = .ok (.goto (-22), 3) := by decide +kernel
theorem dL_isLife_231 : decode cL_isLife 231 = .ok (.iload 6, 2) := by decide +kernel
theorem dL_isLife_233 : decode cL_isLife 233 = .ok (.ifCond .eq 81, 3) := by decide +kernel
theorem dL_isLife_236 : decode cL_isLife 236 = .ok (.aload_n 0, 1) := by decide +kernel
theorem dL_isLife_237 : decode cL_isLife 237 = .ok (.iload_n 1, 1) := by decide +kernel
theorem dL_isLife_238 : decode cL_isLife 238 = .ok (.invokevirtual 28, 3) := by decide +kernel
theorem dL_isLife_241 : decode cL_isLife 241 = .ok (.fload_n 2, 1) := by decide +kernel
theorem dL_isLife_242 : decode cL_isLife 242 = .ok (.fcmp .l, 1) := by decide +kernel
theorem dL_isLife_243 : decode cL_isLife 243 = .ok (.ifCond .ne 71, 3) := by decide +kernel
theorem dL_isLife_246 : decode cL_isLife 246 = .ok (.aload_n 0, 1) := by decide +kernel
theorem dL_isLife_247 : decode cL_isLife 247 = .ok (.iload_n 1, 1) := by decide +kernel
theorem dL_isLife_248 : decode cL_isLife 248 = .ok (.iconst 4, 1) := by decide +kernel
theorem dL_isLife_249 : decode cL_isLife 249 = .ok (.invokevirtual 9, 3) := by decide +kernel
theorem dL_isLife_252 : decode cL_isLife 252 = .ok (.iload_n 3, 1) := by decide +kernel
theorem dL_isLife_253 : decode cL_isLife 253 = .ok (.if_icmp .ne 61, 3) := by decide +kernel
theorem dL_isLife_256 : decode cL_isLife 256 = .ok (.aload_n 0, 1) := by decide +kernel
theorem dL_isLife_257 : decode cL_isLife 257 = .ok (.iload_n 1, 1) := by decide +kernel
theorem dL_isLife_258 : decode cL_isLife 258 = .ok (.iconst 5, 1) := by decide +kernel
theorem dL_isLife_259 : decode cL_isLife 259 = .ok (.invokevirtual 9, 3) := by decide +kernel
theorem dL_isLife_262 : decode cL_isLife 262 = .ok (.iload 4, 2) := by decide +kernel
theorem dL_isLife_264 : decode cL_isLife 264 = .ok (.if_icmp .ne 50, 3) := by decide +kernel
theorem dL_isLife_267 : decode cL_isLife 267 = .ok (.aload_n 0, 1) := by decide +kernel
theorem dL_isLife_268 : decode cL_isLife 268 = .ok (.iload_n 1, 1) := by decide +kernel
theorem dL_isLife_269 : decode cL_isLife 269 = .ok (.bipush 6, 2) := by decide +kernel
theorem dL_isLife_271 : decode cL_isLife 271 = .ok (.invokevirtual 9, 3) := by decide +kernel
theorem dL_isLife_274 : decode cL_isLife 274 = .ok (.iload 7, 2) := by decide +kernel
theorem dL_isLife_276 : decode cL_isLife 276 = .ok (.if_icmp .ne 38, 3) := by decide +kernel
theorem dL_isLife_279 : decode cL_isLife 279 = .ok (.aload_n 0, 1) := by decide +kernel
theorem dL_isLife_280 : decode cL_isLife 280 = .ok (.iload_n 1, 1) := by decide +kernel
theorem dL_isLife_281 : decode cL_isLife 281 = .ok (.bipush 10, 2) := by decide +kernel
theorem dL_isLife_283 : decode cL_isLife 283 = .ok (.invokevirtual 9, 3) := by decide +kernel
theorem dL_isLife_286 : decode cL_isLife 286 = .ok (.iload 7, 2) := by decide +kernel
theorem dL_isLife_288 : decode cL_isLife 288 = .ok (.aload_n 0, 1) := by decide +kernel
theorem dL_isLife_289 : decode cL_isLife 289 = .ok (.bipush 14, 2) := by decide +kernel
theorem dL_isLife_291 : decode cL_isLife 291 = .ok (.invokevirtual 23, 3) := by decide +kernel
theorem dL_isLife_294 : decode cL_isLife 294 = .ok (.if_icmp .lt 12, 3) := by decide +kernel
theorem dL_isLife_297 : decode cL_isLife 297 = .ok (.iload 4, 2) := by decide +kernel
theorem dL_isLife_299 : decode cL_isLife 299 = .ok (.ifCond .ne 7, 3) := by decide +kernel
theorem dL_isLife_302 : decode cL_isLife 302 = .ok (.iconst 1, 1) := by decide +kernel
theorem dL_isLife_303 : decode cL_isLife 303 = .ok (.goto 4, 3) := by decide +kernel
theorem dL_isLife_306 : decode cL_isLife 306 = .ok (.iconst 0, 1) := by decide +kernel
theorem dL_isLife_307 : decode cL_isLife 307 = .ok (.if_icmp .ne 7, 3) := by decide +kernel
theorem dL_isLife_310 : decode cL_isLife 310 = .ok (.iconst 1, 1) := by decide +kernel
theorem dL_isLife_311 : decode cL_isLife 311 = .ok (.goto 4, 3) := by decide +kernel
theorem dL_isLife_314 : decode cL_isLife 314 = .ok (.iconst 0, 1) := by decide +kernel
theorem dL_isLife_315 : decode cL_isLife 315 = .ok (.istore 6, 2) := by decide +kernel
theorem dL_isLife_317 : decode cL_isLife 317 = .ok (.aload_n 0, 1) := by decide +kernel
theorem dL_isLife_318 : decode cL_isLife 318 = .ok (.iload_n 1, 1) := by decide +kernel
theorem dL_isLife_319 : decode cL_isLife 319 = .ok (.iconst 2, 1) := by decide +kernel
theorem dL_isLife_320 : decode cL_isLife 320 = .ok (.invokevirtual 9, 3) := by decide +kernel
theorem dL_isLife_323 : decode cL_isLife 323 = .ok (.istore 8, 2) := by decide +kernel
theorem dL_isLife_325 : decode cL_isLife 325 = .ok (.iload 6, 2) := by decide +kernel
theorem dL_isLife_327 : decode cL_isLife 327 = .ok (.ifCond .eq 125, 3) := by decide +kernel
theorem dL_isLife_330 : decode cL_isLife 330 = .ok (.aload_n 0, 1) := by decide +kernel
theorem dL_isLife_331 : decode cL_isLife 331 = .ok (.iload_n 1, 1) := by decide +kernel
theorem dL_isLife_332 : decode cL_isLife 332 = .ok (.bipush 7, 2) := by decide +kernel
theorem dL_isLife_334 : decode cL_isLife 334 = .ok (.invokevirtual 9, 3) := by decide +kernel
theorem dL_isLife_337 : decode cL_isLife 337 = .ok (.iload 8, 2) := by decide +kernel
theorem dL_isLife_339 : decode cL_isLife 339 = .ok (.ifCond .le 8, 3) := by decide +kernel
theorem dL_isLife_342 : decode cL_isLife 342 = .ok (.bipush (-5), 2) := by decide +kernel
theorem dL_isLife_344 : decode cL_isLife 344 = .ok (.goto 40, 3) := by decide +kernel
theorem dL_isLife_347 : decode cL_isLife 347 = .ok (.aload_n 0, 1) := by decide +kernel
theorem dL_isLife_348 : decode cL_isLife 348 = .ok (.iload_n 1, 1) := by decide +kernel
theorem dL_isLife_349 : decode cL_isLife 349 = .ok (.iconst 0, 1) := by decide +kernel
theorem dL_isLife_350 : decode cL_isLife 350 = .ok (.invokevirtual 9, 3) := by decide +kernel
theorem dL_isLife_353 : decode cL_isLife 353 = .ok (.bipush 10, 2) := by decide +kernel
theorem dL_isLife_355 : decode cL_isLife 355 = .ok (.aload_n 0, 1) := by decide +kernel
theorem dL_isLife_356 : decode cL_isLife 356 = .ok (.iload_n 1, 1) := by decide +kernel
theorem dL_isLife_357 : decode cL_isLife 357 = .ok (.iconst 1, 1) := by decide +kernel
theorem dL_isLife_358 : decode cL_isLife 358 = .ok (.invokevirtual 9, 3) := by decide +kernel
theorem dL_isLife_361 : decode cL_isLife 361 = .ok (.imul, 1) := by decide +kernel
theorem dL_isLife_362 : decode cL_isLife 362 = .ok (.iadd, 1) := by decide +kernel
theorem dL_isLife_363 : decode cL_isLife 363 = .ok (.iconst 5, 1) := by decide +kernel
theorem dL_isLife_364 : decode cL_isLife 364 = .ok (.iload 4, 2) := by decide +kernel
theorem dL_isLife_366 : decode cL_isLife 366 = .ok (.imul, 1) := by decide +kernel
theorem dL_isLife_367 : decode cL_isLife 367 = .ok (.iadd, 1) := by decide +kernel
theorem dL_isLife_368 : decode cL_isLife 368 = .ok (.aload_n 0, 1) := by decide +kernel
theorem dL_isLife_369 : decode cL_isLife 369 = .ok (.iload_n 1, 1) := by decide +kernel
theorem dL_isLife_370 : decode cL_isLife 370 = .ok (.iconst 3, 1) := by decide +kernel
theorem dL_isLife_371 : decode cL_isLife 371 = .ok (.invokevirtual 9, 3) := by decide +kernel
theorem dL_isLife_374 : decode cL_isLife 374 = .ok (.ifCond .ne 8, 3) := by decide +kernel
theorem dL_isLife_377 : decode cL_isLife 377 = .ok (.bipush 40, 2) := by decide +kernel
theorem dL_isLife_379 : decode cL_isLife 379 = .ok (.goto 4, 3) := by decide +kernel
theorem dL_isLife_382 : decode cL_isLife 382 = .ok (.iconst 0, 1) := by decide +kernel
theorem dL_isLife_383 : decode cL_isLife 383 = .ok (.iadd, 1) := by decide +kernel
theorem dL_isLife_384 : decode cL_isLife 384 = .ok (.if_icmp .ne 68, 3) := by decide +kernel
theorem dL_isLife_387 : decode cL_isLife 387 = .ok (.aload_n 0, 1) := by decide +kernel
theorem dL_isLife_388 : decode cL_isLife 388 = .ok (.iload_n 1, 1) := by decide +kernel
theorem dL_isLife_389 : decode cL_isLife 389 = .ok (.bipush 8, 2) := by decide +kernel
theorem dL_isLife_391 : decode cL_isLife 391 = .ok (.invokevirtual 9, 3) := by decide +kernel
theorem dL_isLife_394 : decode cL_isLife 394 = .ok (.bipush (-5), 2) := by decide +kernel
theorem dL_isLife_396 : decode cL_isLife 396 = .ok (.if_icmp .ne 7, 3) := by decide +kernel
theorem dL_isLife_399 : decode cL_isLife 399 = .ok (.iconst 1, 1) := by decide +kernel
theorem dL_isLife_400 : decode cL_isLife 400 = .ok (.goto 4, 3) := by decide +kernel
theorem dL_isLife_403 : decode cL_isLife 403 = .ok (.iconst 0, 1) := by decide +kernel
theorem dL_isLife_404 : decode cL_isLife 404 = .ok (.iload 8, 2) := by decide +kernel
theorem dL_isLife_406 : decode cL_isLife 406 = .ok (.ifCond .ne 7, 3) := by decide +kernel
theorem dL_isLife_409 : decode cL_isLife 409 = .ok (.iconst 1, 1) := by decide +kernel
theorem dL_isLife_410 : decode cL_isLife 410 = .ok (.goto 4, 3) := by decide +kernel
theorem dL_isLife_413 : decode cL_isLife 413 = .ok (.iconst 0, 1) := by decide +kernel
theorem dL_isLife_414 : decode cL_isLife 414 = .ok (.if_icmp .ne 38, 3) := by decide +kernel
theorem dL_isLife_417 : decode cL_isLife 417 = .ok (.aload_n 0, 1) := by decide +kernel
theorem dL_isLife_418 : decode cL_isLife 418 = .ok (.iload_n 1, 1) := by decide +kernel
theorem dL_isLife_419 : decode cL_isLife 419 = .ok (.bipush 9, 2) := by decide +kernel
theorem dL_isLife_421 : decode cL_isLife 421 = .ok (.invokevirtual 9, 3) := by decide +kernel
theorem dL_isLife_424 : decode cL_isLife 424 = .ok (.bipush (-5), 2) := by decide +kernel
theorem dL_isLife_426 : decode cL_isLife 426 = .ok (.if_icmp .ne 7, 3) := by decide +kernel
theorem dL_isLife_429 : decode cL_isLife 429 = .ok (.iconst 1, 1) := by decide +kernel
theorem dL_isLife_430 : decode cL_isLife 430 = .ok (.goto 4, 3) := by decide +kernel
theorem dL_isLife_433 : decode cL_isLife 433 = .ok (.iconst 0, 1) := by decide +kernel
theorem dL_isLife_434 : decode cL_isLife 434 = .ok (.iload 8, 2) := by decide +kernel
theorem dL_isLife_436 : decode cL_isLife 436 = .ok (.iconst 3, 1) := by decide +kernel
theorem dL_isLife_437 : decode cL_isLife 437 = .ok (.if_icmp .ge 7, 3) := by decide +kernel
theorem dL_isLife_440 : decode cL_isLife 440 = .ok (.iconst 1, 1) := by decide +kernel
theorem dL_isLife_441 : decode cL_isLife 441 = .ok (.goto 4, 3) := by decide +kernel
theorem dL_isLife_444 : decode cL_isLife 444 = .ok (.iconst 0, 1) := by decide +kernel
theorem dL_isLife_445 : decode cL_isLife 445 = .ok (.if_icmp .ne 7, 3) := by decide +kernel
theorem dL_isLife_448 : decode cL_isLife 448 = .ok (.iconst 1, 1) := by decide +kernel
theorem dL_isLife_449 : decode cL_isLife 449 = .ok (.goto 4, 3) := by decide +kernel
theorem dL_isLife_452 : decode cL_isLife 452 = .ok (.iconst 0, 1) := by decide +kernel
theorem dL_isLife_453 : decode cL_isLife 453 = .ok (.ireturn, 1) := by decide +kernel
theorem dL_isAll_0 : decode cL_isAll 0 = .ok (.iconst 0, 1) := by decide +kernel
theorem dL_isAll_1 : decode cL_isAll 1 = .ok (.istore_n 1, 1) := by decide +kernel
theorem dL_isAll_2 : decode cL_isAll 2 = .ok (.iconst 0, 1) := by decide +kernel
theorem dL_isAll_3 : decode cL_isAll 3 = .ok (.istore_n 2, 1) := by decide +kernel
theorem dL_isAll_4 : decode cL_isAll 4 = .ok (.iconst 0, 1) := by decide +kernel
theorem dL_isAll_5 : decode cL_isAll 5 = .ok (.istore_n 3, 1) := by decide +kernel
theorem dL_isAll_6 : decode cL_isAll 6 = .ok (.iconst 1, 1) := by decide +kernel
theorem dL_isAll_7 : decode cL_isAll 7 = .ok (.istore 4, 2) := by decide +kernel
