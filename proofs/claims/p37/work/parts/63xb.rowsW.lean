/-! rows of the law, by program -/
theorem dL_act_236 : decode cL_act 236 = .ok (.ifCond .eq 7, 3) := by decide +kernel
theorem dL_act_239 : decode cL_act 239 = .ok (.iconst 1, 1) := by decide +kernel
theorem dL_act_240 : decode cL_act 240 = .ok (.goto 4, 3) := by decide +kernel
theorem dL_act_243 : decode cL_act 243 = .ok (.iconst 0, 1) := by decide +kernel
theorem dL_act_244 : decode cL_act 244 = .ok (.ireturn, 1) := by decide +kernel
theorem dL_act_245 : decode cL_act 245 = .ok (.astore 7, 2) := by decide +kernel
theorem dL_act_247 : decode cL_act 247 = .ok (.iload 6, 2) := by decide +kernel
theorem dL_act_249 : decode cL_act 249 = .ok (.ifCond .ne 7, 3) := by decide +kernel
theorem dL_act_252 : decode cL_act 252 = .ok (.iconst 1, 1) := by decide +kernel
theorem dL_act_253 : decode cL_act 253 = .ok (.goto 4, 3) := by decide +kernel
theorem dL_act_256 : decode cL_act 256 = .ok (.iconst 0, 1) := by decide +kernel
theorem dL_act_257 : decode cL_act 257 = .ok (.ireturn, 1) := by decide +kernel
theorem dL_act_258 : decode cL_act 258 = .ok (.aload_n 1, 1) := by decide +kernel
theorem dL_act_259 : decode cL_act 259 = .ok (.getfield 49, 3) := by decide +kernel
theorem dL_act_262 : decode cL_act 262 = .ok (.iload 5, 2) := by decide +kernel
theorem dL_act_264 : decode cL_act 264 = .ok (.iaload, 1) := by decide +kernel
theorem dL_act_265 : decode cL_act 265 = .ok (.istore 6, 2) := by decide +kernel
theorem dL_act_267 : decode cL_act 267 = .ok (.aload_n 1, 1) := by decide +kernel
theorem dL_act_268 : decode cL_act 268 = .ok (.getfield 49, 3) := by decide +kernel
theorem dL_act_271 : decode cL_act 271 = .ok (.iload 5, 2) := by decide +kernel
theorem dL_act_273 : decode cL_act 273 = .ok (.iconst 1, 1) := by decide +kernel
theorem dL_act_274 : decode cL_act 274 = .ok (.iload_n 2, 1) := by decide +kernel
theorem dL_act_275 : decode cL_act 275 = .ok (.bipush 8, 2) := by decide +kernel
theorem dL_act_277 : decode cL_act 277 = .ok (.ishr, 1) := by decide +kernel
theorem dL_act_278 : decode cL_act 278 = .ok (.bipush 9, 2) := by decide +kernel
theorem dL_act_280 : decode cL_act 280 = .ok (.invokestatic 15, 3) := by decide +kernel
theorem dL_act_283 : decode cL_act 283 = .ok (.iadd, 1) := by decide +kernel
theorem dL_act_284 : decode cL_act 284 = .ok (.iastore, 1) := by decide +kernel
theorem dL_act_285 : decode cL_act 285 = .ok (.aload_n 0, 1) := by decide +kernel
theorem dL_act_286 : decode cL_act 286 = .ok (.iload 5, 2) := by decide +kernel
theorem dL_act_288 : decode cL_act 288 = .ok (.aload_n 1, 1) := by decide +kernel
theorem dL_act_289 : decode cL_act 289 = .ok (.getfield 49, 3) := by decide +kernel
theorem dL_act_292 : decode cL_act 292 = .ok (.iload 5, 2) := by decide +kernel
theorem dL_act_294 : decode cL_act 294 = .ok (.iaload, 1) := by decide +kernel
theorem dL_act_295 : decode cL_act 295 = .ok (.invokevirtual 53, 3) := by decide +kernel
theorem dL_act_298 : decode cL_act 298 = .ok (.iload 6, 2) := by decide +kernel
theorem dL_act_300 : decode cL_act 300 = .ok (.if_icmp .ne 7, 3) := by decide +kernel
theorem dL_act_303 : decode cL_act 303 = .ok (.iconst 1, 1) := by decide +kernel
theorem dL_act_304 : decode cL_act 304 = .ok (.goto 4, 3) := by decide +kernel
theorem dL_act_307 : decode cL_act 307 = .ok (.iconst 0, 1) := by decide +kernel
theorem dL_act_308 : decode cL_act 308 = .ok (.ireturn, 1) := by decide +kernel
theorem dL_act_309 : decode cL_act 309 = .ok (.iconst 1, 1) := by decide +kernel
theorem dL_act_310 : decode cL_act 310 = .ok (.iload_n 2, 1) := by decide +kernel
theorem dL_act_311 : decode cL_act 311 = .ok (.bipush 8, 2) := by decide +kernel
theorem dL_act_313 : decode cL_act 313 = .ok (.ishr, 1) := by decide +kernel
theorem dL_act_314 : decode cL_act 314 = .ok (.iload_n 2, 1) := by decide +kernel
theorem dL_act_315 : decode cL_act 315 = .ok (.iconst 3, 1) := by decide +kernel
theorem dL_act_316 : decode cL_act 316 = .ok (.ishr, 1) := by decide +kernel
theorem dL_act_317 : decode cL_act 317 = .ok (.iconst 3, 1) := by decide +kernel
theorem dL_act_318 : decode cL_act 318 = .ok (.invokestatic 15, 3) := by decide +kernel
theorem dL_act_321 : decode cL_act 321 = .ok (.ifCond .ne 8, 3) := by decide +kernel
theorem dL_act_324 : decode cL_act 324 = .ok (.bipush 20, 2) := by decide +kernel
theorem dL_act_326 : decode cL_act 326 = .ok (.goto 4, 3) := by decide +kernel
theorem dL_act_329 : decode cL_act 329 = .ok (.iconst 4, 1) := by decide +kernel
theorem dL_act_330 : decode cL_act 330 = .ok (.invokestatic 15, 3) := by decide +kernel
theorem dL_act_333 : decode cL_act 333 = .ok (.iadd, 1) := by decide +kernel
theorem dL_act_334 : decode cL_act 334 = .ok (.istore 6, 2) := by decide +kernel
theorem dL_act_336 : decode cL_act 336 = .ok (.aload_n 1, 1) := by decide +kernel
theorem dL_act_337 : decode cL_act 337 = .ok (.getfield 56, 3) := by decide +kernel
theorem dL_act_340 : decode cL_act 340 = .ok (.iload 5, 2) := by decide +kernel
theorem dL_act_342 : decode cL_act 342 = .ok (.bipush 20, 2) := by decide +kernel
theorem dL_act_344 : decode cL_act 344 = .ok (.aload_n 1, 1) := by decide +kernel
theorem dL_act_345 : decode cL_act 345 = .ok (.getfield 56, 3) := by decide +kernel
theorem dL_act_348 : decode cL_act 348 = .ok (.iload 5, 2) := by decide +kernel
theorem dL_act_350 : decode cL_act 350 = .ok (.iaload, 1) := by decide +kernel
theorem dL_act_351 : decode cL_act 351 = .ok (.iload 6, 2) := by decide +kernel
theorem dL_act_353 : decode cL_act 353 = .ok (.iadd, 1) := by decide +kernel
theorem dL_act_354 : decode cL_act 354 = .ok (.invokestatic 59, 3) := by decide +kernel
theorem dL_act_357 : decode cL_act 357 = .ok (.iastore, 1) := by decide +kernel
theorem dL_act_358 : decode cL_act 358 = .ok (.aload_n 0, 1) := by decide +kernel
theorem dL_act_359 : decode cL_act 359 = .ok (.iload 5, 2) := by decide +kernel
theorem dL_act_361 : decode cL_act 361 = .ok (.iload 6, 2) := by decide +kernel
theorem dL_act_363 : decode cL_act 363 = .ok (.invokevirtual 64, 3) := by decide +kernel
theorem dL_act_366 : decode cL_act 366 = .ok (.aload_n 1, 1) := by decide +kernel
theorem dL_act_367 : decode cL_act 367 = .ok (.getfield 56, 3) := by decide +kernel
theorem dL_act_370 : decode cL_act 370 = .ok (.iload 5, 2) := by decide +kernel
theorem dL_act_372 : decode cL_act 372 = .ok (.iaload, 1) := by decide +kernel
theorem dL_act_373 : decode cL_act 373 = .ok (.if_icmp .ne 7, 3) := by decide +kernel
theorem dL_act_376 : decode cL_act 376 = .ok (.iconst 1, 1) := by decide +kernel
theorem dL_act_377 : decode cL_act 377 = .ok (.goto 4, 3) := by decide +kernel
theorem dL_act_380 : decode cL_act 380 = .ok (.iconst 0, 1) := by decide +kernel
theorem dL_act_381 : decode cL_act 381 = .ok (.ireturn, 1) := by decide +kernel
theorem dL_act_382 : decode cL_act 382 = .ok (.aload_n 1, 1) := by decide +kernel
theorem dL_act_383 : decode cL_act 383 = .ok (.getfield 39, 3) := by decide +kernel
theorem dL_act_386 : decode cL_act 386 = .ok (.iload_n 3, 1) := by decide +kernel
theorem dL_act_387 : decode cL_act 387 = .ok (.aaload, 1) := by decide +kernel
theorem dL_act_388 : decode cL_act 388 = .ok (.iload 4, 2) := by decide +kernel
theorem dL_act_390 : decode cL_act 390 = .ok (.baload, 1) := by decide +kernel
theorem dL_act_391 : decode cL_act 391 = .ok (.ifCond .ne 7, 3) := by decide +kernel
theorem dL_act_394 : decode cL_act 394 = .ok (.iconst 1, 1) := by decide +kernel
theorem dL_act_395 : decode cL_act 395 = .ok (.goto 4, 3) := by decide +kernel
theorem dL_act_398 : decode cL_act 398 = .ok (.iconst 0, 1) := by decide +kernel
theorem dL_act_399 : decode cL_act 399 = .ok (.istore 6, 2) := by decide +kernel
theorem dL_act_401 : decode cL_act 401 = .ok (.iload_n 3, 1) := by decide +kernel
theorem dL_act_402 : decode cL_act 402 = .ok (.aload_n 1, 1) := by decide +kernel
theorem dL_act_403 : decode cL_act 403 = .ok (.getfield 33, 3) := by decide +kernel
theorem dL_act_406 : decode cL_act 406 = .ok (.isub, 1) := by decide +kernel
theorem dL_act_407 : decode cL_act 407 = .ok (.invokestatic 67, 3) := by decide +kernel
theorem dL_act_410 : decode cL_act 410 = .ok (.iload 4, 2) := by decide +kernel
theorem dL_act_412 : decode cL_act 412 = .ok (.aload_n 1, 1) := by decide +kernel
theorem dL_act_413 : decode cL_act 413 = .ok (.getfield 36, 3) := by decide +kernel
theorem dL_act_416 : decode cL_act 416 = .ok (.isub, 1) := by decide +kernel
theorem dL_act_417 : decode cL_act 417 = .ok (.invokestatic 67, 3) := by decide +kernel
theorem dL_act_420 : decode cL_act 420 = .ok (.iadd, 1) := by decide +kernel
theorem dL_act_421 : decode cL_act 421 = .ok (.istore 7, 2) := by decide +kernel
theorem dL_act_423 : decode cL_act 423 = .ok (.iload 6, 2) := by decide +kernel
theorem dL_act_425 : decode cL_act 425 = .ok (.ifCond .eq 10, 3) := by decide +kernel
theorem dL_act_428 : decode cL_act 428 = .ok (.aload_n 1, 1) := by decide +kernel
theorem dL_act_429 : decode cL_act 429 = .ok (.iload_n 3, 1) := by decide +kernel
theorem dL_act_430 : decode cL_act 430 = .ok (.iload 4, 2) := by decide +kernel
theorem dL_act_432 : decode cL_act 432 = .ok (.invokevirtual 71, 3) := by decide +kernel
theorem dL_act_435 : decode cL_act 435 = .ok (.aload_n 0, 1) := by decide +kernel
theorem dL_act_436 : decode cL_act 436 = .ok (.iload_n 3, 1) := by decide +kernel
theorem dL_act_437 : decode cL_act 437 = .ok (.iload 4, 2) := by decide +kernel
theorem dL_act_439 : decode cL_act 439 = .ok (.invokevirtual 74, 3) := by decide +kernel
theorem dL_act_442 : decode cL_act 442 = .ok (.iload 7, 2) := by decide +kernel
theorem dL_act_444 : decode cL_act 444 = .ok (.if_icmp .ne 12, 3) := by decide +kernel
theorem dL_act_447 : decode cL_act 447 = .ok (.iload 6, 2) := by decide +kernel
theorem dL_act_449 : decode cL_act 449 = .ok (.ifCond .eq 7, 3) := by decide +kernel
theorem dL_act_452 : decode cL_act 452 = .ok (.iconst 1, 1) := by decide +kernel
theorem dL_act_453 : decode cL_act 453 = .ok (.goto 4, 3) := by decide +kernel
theorem dL_act_456 : decode cL_act 456 = .ok (.iconst 0, 1) := by decide +kernel
theorem dL_act_457 : decode cL_act 457 = .ok (.ireturn, 1) := by decide +kernel
theorem dL_act_458 : decode cL_act 458 = .ok (.astore 8, 2) := by decide +kernel
theorem dL_act_460 : decode cL_act 460 = .ok (.iload 6, 2) := by decide +kernel
theorem dL_act_462 : decode cL_act 462 = .ok (.ifCond .ne 7, 3) := by decide +kernel
theorem dL_act_465 : decode cL_act 465 = .ok (.iconst 1, 1) := by decide +kernel
theorem dL_act_466 : decode cL_act 466 = .ok (.goto 4, 3) := by decide +kernel
theorem dL_act_469 : decode cL_act 469 = .ok (.iconst 0, 1) := by decide +kernel
theorem dL_act_470 : decode cL_act 470 = .ok (.ireturn, 1) := by decide +kernel
theorem dL_act_471 : decode cL_act 471 = .ok (.iload_n 2, 1) := by decide +kernel
theorem dL_act_472 : decode cL_act 472 = .ok (.iconst 4, 1) := by decide +kernel
theorem dL_act_473 : decode cL_act 473 = .ok (.ishr, 1) := by decide +kernel
theorem dL_act_474 : decode cL_act 474 = .ok (.iconst 4, 1) := by decide +kernel
theorem dL_act_475 : decode cL_act 475 = .ok (.invokestatic 15, 3) := by decide +kernel
theorem dL_act_478 : decode cL_act 478 = .ok (.istore 6, 2) := by decide +kernel
theorem dL_act_480 : decode cL_act 480 = .ok (.iconst 1, 1) := by decide +kernel
theorem dL_act_481 : decode cL_act 481 = .ok (.iload_n 2, 1) := by decide +kernel
theorem dL_act_482 : decode cL_act 482 = .ok (.bipush 7, 2) := by decide +kernel
theorem dL_act_484 : decode cL_act 484 = .ok (.ishr, 1) := by decide +kernel
theorem dL_act_485 : decode cL_act 485 = .ok (.iload_n 2, 1) := by decide +kernel
theorem dL_act_486 : decode cL_act 486 = .ok (.iconst 3, 1) := by decide +kernel
theorem dL_act_487 : decode cL_act 487 = .ok (.ishr, 1) := by decide +kernel
theorem dL_act_488 : decode cL_act 488 = .ok (.iconst 4, 1) := by decide +kernel
theorem dL_act_489 : decode cL_act 489 = .ok (.invokestatic 15, 3) := by decide +kernel
theorem dL_act_492 : decode cL_act 492 = .ok (.ifCond .ne 8, 3) := by decide +kernel
theorem dL_act_495 : decode cL_act 495 = .ok (.bipush 50, 2) := by decide +kernel
theorem dL_act_497 : decode cL_act 497 = .ok (.goto 4, 3) := by decide +kernel
theorem dL_act_500 : decode cL_act 500 = .ok (.iconst 4, 1) := by decide +kernel
theorem dL_act_501 : decode cL_act 501 = .ok (.invokestatic 15, 3) := by decide +kernel
