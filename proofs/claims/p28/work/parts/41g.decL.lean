theorem dL_acts_178 : decode cL_acts 178 = .ok (.aload_n 0, 1) := by decide +kernel
theorem dL_acts_179 : decode cL_acts 179 = .ok (.iload_n 2, 1) := by decide +kernel
theorem dL_acts_180 : decode cL_acts 180 = .ok (.iload 5, 2) := by decide +kernel
theorem dL_acts_182 : decode cL_acts 182 = .ok (.iconst 2, 1) := by decide +kernel
theorem dL_acts_183 : decode cL_acts 183 = .ok (.invokevirtual 15, 3) := by decide +kernel
theorem dL_acts_186 : decode cL_acts 186 = .ok (.aload_n 0, 1) := by decide +kernel
theorem dL_acts_187 : decode cL_acts 187 = .ok (.iconst 0, 1) := by decide +kernel
theorem dL_acts_188 : decode cL_acts 188 = .ok (.invokevirtual 23, 3) := by decide +kernel
theorem dL_acts_191 : decode cL_acts 191 = .ok (.if_icmp .ne 7, 3) := by decide +kernel
theorem dL_acts_194 : decode cL_acts 194 = .ok (.iconst 1, 1) := by decide +kernel
theorem dL_acts_195 : decode cL_acts 195 = .ok (.goto 4, 3) := by decide +kernel
theorem dL_acts_198 : decode cL_acts 198 = .ok (.iconst 0, 1) := by decide +kernel
theorem dL_acts_199 : decode cL_acts 199 = .ok (.ireturn, 1) := by decide +kernel
theorem dL_acts_200 : decode cL_acts 200 = .ok (.iload 5, 2) := by decide +kernel
theorem dL_acts_202 : decode cL_acts 202 = .ok (.ifCond .ne 7, 3) := by decide +kernel
theorem dL_acts_205 : decode cL_acts 205 = .ok (.iconst 0, 1) := by decide +kernel
theorem dL_acts_206 : decode cL_acts 206 = .ok (.goto 10, 3) := by decide +kernel
theorem dL_acts_209 : decode cL_acts 209 = .ok (.iload_n 1, 1) := by decide +kernel
theorem dL_acts_210 : decode cL_acts 210 = .ok (.bipush 12, 2) := by decide +kernel
theorem dL_acts_212 : decode cL_acts 212 = .ok (.ishr, 1) := by decide +kernel
theorem dL_acts_213 : decode cL_acts 213 = .ok (.iload 5, 2) := by decide +kernel
theorem dL_acts_215 : decode cL_acts 215 = .ok (.irem, 1) := by decide +kernel
theorem dL_acts_216 : decode cL_acts 216 = .ok (.istore 9, 2) := by decide +kernel
theorem dL_acts_218 : decode cL_acts 218 = .ok (.aload_n 0, 1) := by decide +kernel
theorem dL_acts_219 : decode cL_acts 219 = .ok (.iload_n 2, 1) := by decide +kernel
theorem dL_acts_220 : decode cL_acts 220 = .ok (.iload 9, 2) := by decide +kernel
theorem dL_acts_222 : decode cL_acts 222 = .ok (.iconst 2, 1) := by decide +kernel
theorem dL_acts_223 : decode cL_acts 223 = .ok (.invokevirtual 15, 3) := by decide +kernel
theorem dL_acts_226 : decode cL_acts 226 = .ok (.istore 10, 2) := by decide +kernel
theorem dL_acts_228 : decode cL_acts 228 = .ok (.aload_n 0, 1) := by decide +kernel
theorem dL_acts_229 : decode cL_acts 229 = .ok (.iload_n 2, 1) := by decide +kernel
theorem dL_acts_230 : decode cL_acts 230 = .ok (.iload 9, 2) := by decide +kernel
theorem dL_acts_232 : decode cL_acts 232 = .ok (.invokevirtual 61, 3) := by decide +kernel
theorem dL_acts_235 : decode cL_acts 235 = .ok (.istore 11, 2) := by decide +kernel
theorem dL_acts_237 : decode cL_acts 237 = .ok (.iload 5, 2) := by decide +kernel
theorem dL_acts_239 : decode cL_acts 239 = .ok (.ifCond .ne 17, 3) := by decide +kernel
theorem dL_acts_242 : decode cL_acts 242 = .ok (.iload 11, 2) := by decide +kernel
theorem dL_acts_244 : decode cL_acts 244 = .ok (.iconst (-1), 1) := by decide +kernel
theorem dL_acts_245 : decode cL_acts 245 = .ok (.if_icmp .ne 7, 3) := by decide +kernel
theorem dL_acts_248 : decode cL_acts 248 = .ok (.iconst 1, 1) := by decide +kernel
theorem dL_acts_249 : decode cL_acts 249 = .ok (.goto 103, 3) := by decide +kernel
theorem dL_acts_252 : decode cL_acts 252 = .ok (.iconst 0, 1) := by decide +kernel
theorem dL_acts_253 : decode cL_acts 253 = .ok (.goto 99, 3) := by decide +kernel
theorem dL_acts_256 : decode cL_acts 256 = .ok (.iload 4, 2) := by decide +kernel
theorem dL_acts_258 : decode cL_acts 258 = .ok (.iconst 3, 1) := by decide +kernel
theorem dL_acts_259 : decode cL_acts 259 = .ok (.if_icmp .ne 18, 3) := by decide +kernel
theorem dL_acts_262 : decode cL_acts 262 = .ok (.iload 11, 2) := by decide +kernel
theorem dL_acts_264 : decode cL_acts 264 = .ok (.bipush (-4), 2) := by decide +kernel
theorem dL_acts_266 : decode cL_acts 266 = .ok (.if_icmp .ne 7, 3) := by decide +kernel
theorem dL_acts_269 : decode cL_acts 269 = .ok (.iconst 1, 1) := by decide +kernel
theorem dL_acts_270 : decode cL_acts 270 = .ok (.goto 82, 3) := by decide +kernel
theorem dL_acts_273 : decode cL_acts 273 = .ok (.iconst 0, 1) := by decide +kernel
theorem dL_acts_274 : decode cL_acts 274 = .ok (.goto 78, 3) := by decide +kernel
theorem dL_acts_277 : decode cL_acts 277 = .ok (.iload 6, 2) := by decide +kernel
theorem dL_acts_279 : decode cL_acts 279 = .ok (.ifCond .ne 18, 3) := by decide +kernel
theorem dL_acts_282 : decode cL_acts 282 = .ok (.iload 11, 2) := by decide +kernel
theorem dL_acts_284 : decode cL_acts 284 = .ok (.bipush (-3), 2) := by decide +kernel
theorem dL_acts_286 : decode cL_acts 286 = .ok (.if_icmp .ne 7, 3) := by decide +kernel
theorem dL_acts_289 : decode cL_acts 289 = .ok (.iconst 1, 1) := by decide +kernel
theorem dL_acts_290 : decode cL_acts 290 = .ok (.goto 62, 3) := by decide +kernel
theorem dL_acts_293 : decode cL_acts 293 = .ok (.iconst 0, 1) := by decide +kernel
theorem dL_acts_294 : decode cL_acts 294 = .ok (.goto 58, 3) := by decide +kernel
theorem dL_acts_297 : decode cL_acts 297 = .ok (.iload 10, 2) := by decide +kernel
theorem dL_acts_299 : decode cL_acts 299 = .ok (.aload_n 0, 1) := by decide +kernel
theorem dL_acts_300 : decode cL_acts 300 = .ok (.iconst 0, 1) := by decide +kernel
theorem dL_acts_301 : decode cL_acts 301 = .ok (.invokevirtual 23, 3) := by decide +kernel
theorem dL_acts_304 : decode cL_acts 304 = .ok (.if_icmp .ne 18, 3) := by decide +kernel
theorem dL_acts_307 : decode cL_acts 307 = .ok (.iload 11, 2) := by decide +kernel
theorem dL_acts_309 : decode cL_acts 309 = .ok (.bipush (-5), 2) := by decide +kernel
theorem dL_acts_311 : decode cL_acts 311 = .ok (.if_icmp .ne 7, 3) := by decide +kernel
theorem dL_acts_314 : decode cL_acts 314 = .ok (.iconst 1, 1) := by decide +kernel
theorem dL_acts_315 : decode cL_acts 315 = .ok (.goto 37, 3) := by decide +kernel
theorem dL_acts_318 : decode cL_acts 318 = .ok (.iconst 0, 1) := by decide +kernel
theorem dL_acts_319 : decode cL_acts 319 = .ok (.goto 33, 3) := by decide +kernel
theorem dL_acts_322 : decode cL_acts 322 = .ok (.iload 11, 2) := by decide +kernel
theorem dL_acts_324 : decode cL_acts 324 = .ok (.iload 6, 2) := by decide +kernel
theorem dL_acts_326 : decode cL_acts 326 = .ok (.iconst 1, 1) := by decide +kernel
theorem dL_acts_327 : decode cL_acts 327 = .ok (.isub, 1) := by decide +kernel
theorem dL_acts_328 : decode cL_acts 328 = .ok (.if_icmp .ne 23, 3) := by decide +kernel
theorem dL_acts_331 : decode cL_acts 331 = .ok (.aload_n 0, 1) := by decide +kernel
theorem dL_acts_332 : decode cL_acts 332 = .ok (.iload_n 2, 1) := by decide +kernel
theorem dL_acts_333 : decode cL_acts 333 = .ok (.iload 9, 2) := by decide +kernel
theorem dL_acts_335 : decode cL_acts 335 = .ok (.iconst 2, 1) := by decide +kernel
theorem dL_acts_336 : decode cL_acts 336 = .ok (.invokevirtual 15, 3) := by decide +kernel
theorem dL_acts_339 : decode cL_acts 339 = .ok (.aload_n 0, 1) := by decide +kernel
theorem dL_acts_340 : decode cL_acts 340 = .ok (.iconst 0, 1) := by decide +kernel
theorem dL_acts_341 : decode cL_acts 341 = .ok (.invokevirtual 23, 3) := by decide +kernel
theorem dL_acts_344 : decode cL_acts 344 = .ok (.if_icmp .ne 7, 3) := by decide +kernel
theorem dL_acts_347 : decode cL_acts 347 = .ok (.iconst 1, 1) := by decide +kernel
theorem dL_acts_348 : decode cL_acts 348 = .ok (.goto 4, 3) := by decide +kernel
theorem dL_acts_351 : decode cL_acts 351 = .ok (.iconst 0, 1) := by decide +kernel
theorem dL_acts_352 : decode cL_acts 352 = .ok (.ireturn, 1) := by decide +kernel
theorem dL_acts_353 : decode cL_acts 353 = .ok (.aload_n 0, 1) := by decide +kernel
theorem dL_acts_354 : decode cL_acts 354 = .ok (.iload_n 2, 1) := by decide +kernel
theorem dL_acts_355 : decode cL_acts 355 = .ok (.iload_n 3, 1) := by decide +kernel
theorem dL_acts_356 : decode cL_acts 356 = .ok (.invokestatic 64, 3) := by decide +kernel
theorem dL_acts_359 : decode cL_acts 359 = .ok (.ireturn, 1) := by decide +kernel
theorem dL_acts_360 : decode cL_acts 360 = .ok (.aload_n 0, 1) := by decide +kernel
theorem dL_acts_361 : decode cL_acts 361 = .ok (.iconst 4, 1) := by decide +kernel
theorem dL_acts_362 : decode cL_acts 362 = .ok (.invokevirtual 23, 3) := by decide +kernel
theorem dL_acts_365 : decode cL_acts 365 = .ok (.istore 12, 2) := by decide +kernel
theorem dL_acts_367 : decode cL_acts 367 = .ok (.iload_n 1, 1) := by decide +kernel
theorem dL_acts_368 : decode cL_acts 368 = .ok (.bipush 12, 2) := by decide +kernel
theorem dL_acts_370 : decode cL_acts 370 = .ok (.ishr, 1) := by decide +kernel
theorem dL_acts_371 : decode cL_acts 371 = .ok (.iconst 4, 1) := by decide +kernel
theorem dL_acts_372 : decode cL_acts 372 = .ok (.irem, 1) := by decide +kernel
theorem dL_acts_373 : decode cL_acts 373 = .ok (.ifCond .le 7, 3) := by decide +kernel
theorem dL_acts_376 : decode cL_acts 376 = .ok (.iconst 1, 1) := by decide +kernel
theorem dL_acts_377 : decode cL_acts 377 = .ok (.goto 4, 3) := by decide +kernel
theorem dL_acts_380 : decode cL_acts 380 = .ok (.iconst 0, 1) := by decide +kernel
theorem dL_acts_381 : decode cL_acts 381 = .ok (.istore 13, 2) := by decide +kernel
theorem dL_acts_383 : decode cL_acts 383 = .ok (.aload_n 0, 1) := by decide +kernel
theorem dL_acts_384 : decode cL_acts 384 = .ok (.iload_n 2, 1) := by decide +kernel
theorem dL_acts_385 : decode cL_acts 385 = .ok (.iload 13, 2) := by decide +kernel
theorem dL_acts_387 : decode cL_acts 387 = .ok (.invokevirtual 68, 3) := by decide +kernel
theorem dL_acts_390 : decode cL_acts 390 = .ok (.istore 14, 2) := by decide +kernel
theorem dL_acts_392 : decode cL_acts 392 = .ok (.iload 4, 2) := by decide +kernel
theorem dL_acts_394 : decode cL_acts 394 = .ok (.iconst 1, 1) := by decide +kernel
theorem dL_acts_395 : decode cL_acts 395 = .ok (.if_icmp .eq 18, 3) := by decide +kernel
theorem dL_acts_398 : decode cL_acts 398 = .ok (.iload 14, 2) := by decide +kernel
theorem dL_acts_400 : decode cL_acts 400 = .ok (.bipush (-4), 2) := by decide +kernel
theorem dL_acts_402 : decode cL_acts 402 = .ok (.if_icmp .ne 7, 3) := by decide +kernel
theorem dL_acts_405 : decode cL_acts 405 = .ok (.iconst 1, 1) := by decide +kernel
theorem dL_acts_406 : decode cL_acts 406 = .ok (.goto 40, 3) := by decide +kernel
theorem dL_acts_409 : decode cL_acts 409 = .ok (.iconst 0, 1) := by decide +kernel
theorem dL_acts_410 : decode cL_acts 410 = .ok (.goto 36, 3) := by decide +kernel
theorem dL_acts_413 : decode cL_acts 413 = .ok (.iload 14, 2) := by decide +kernel
theorem dL_acts_415 : decode cL_acts 415 = .ok (.iload 12, 2) := by decide +kernel
theorem dL_acts_417 : decode cL_acts 417 = .ok (.iconst 1, 1) := by decide +kernel
theorem dL_acts_418 : decode cL_acts 418 = .ok (.isub, 1) := by decide +kernel
theorem dL_acts_419 : decode cL_acts 419 = .ok (.if_icmp .ne 26, 3) := by decide +kernel
theorem dL_acts_422 : decode cL_acts 422 = .ok (.aload_n 0, 1) := by decide +kernel
theorem dL_acts_423 : decode cL_acts 423 = .ok (.iload_n 2, 1) := by decide +kernel
theorem dL_acts_424 : decode cL_acts 424 = .ok (.iconst 2, 1) := by decide +kernel
theorem dL_acts_425 : decode cL_acts 425 = .ok (.invokevirtual 9, 3) := by decide +kernel
theorem dL_acts_428 : decode cL_acts 428 = .ok (.iload 13, 2) := by decide +kernel
theorem dL_acts_430 : decode cL_acts 430 = .ok (.ifCond .eq 7, 3) := by decide +kernel
theorem dL_acts_433 : decode cL_acts 433 = .ok (.iconst 2, 1) := by decide +kernel
theorem dL_acts_434 : decode cL_acts 434 = .ok (.goto 4, 3) := by decide +kernel
theorem dL_acts_437 : decode cL_acts 437 = .ok (.iconst 0, 1) := by decide +kernel
