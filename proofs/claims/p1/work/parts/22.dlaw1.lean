theorem wd_K_law_276 : decode code 276 = .ok (.iload 5, 2) := by decide +kernel
theorem wd_K_law_278 : decode code 278 = .ok (.ifCond .ne 15, 3) := by decide +kernel
theorem wd_K_law_281 : decode code 281 = .ok (.aload_n 3, 1) := by decide +kernel
theorem wd_K_law_282 : decode code 282 = .ok (.iconst 0, 1) := by decide +kernel
theorem wd_K_law_283 : decode code 283 = .ok (.laload, 1) := by decide +kernel
theorem wd_K_law_284 : decode code 284 = .ok (.iload 6, 2) := by decide +kernel
theorem wd_K_law_286 : decode code 286 = .ok (.i2l, 1) := by decide +kernel
theorem wd_K_law_287 : decode code 287 = .ok (.lcmp, 1) := by decide +kernel
theorem wd_K_law_288 : decode code 288 = .ok (.ifCond .eq 5, 3) := by decide +kernel
theorem wd_K_law_291 : decode code 291 = .ok (.iconst 0, 1) := by decide +kernel
theorem wd_K_law_292 : decode code 292 = .ok (.ireturn, 1) := by decide +kernel
theorem wd_K_law_293 : decode code 293 = .ok (.goto 738, 3) := by decide +kernel
theorem wd_K_law_296 : decode code 296 = .ok (.aload_n 1, 1) := by decide +kernel
theorem wd_K_law_297 : decode code 297 = .ok (.aload_n 0, 1) := by decide +kernel
theorem wd_K_law_298 : decode code 298 = .ok (.iload 4, 2) := by decide +kernel
theorem wd_K_law_300 : decode code 300 = .ok (.iconst 1, 1) := by decide +kernel
theorem wd_K_law_301 : decode code 301 = .ok (.iadd, 1) := by decide +kernel
theorem wd_K_law_302 : decode code 302 = .ok (.iaload, 1) := by decide +kernel
theorem wd_K_law_303 : decode code 303 = .ok (.aload_n 0, 1) := by decide +kernel
theorem wd_K_law_304 : decode code 304 = .ok (.iload 4, 2) := by decide +kernel
theorem wd_K_law_306 : decode code 306 = .ok (.iconst 2, 1) := by decide +kernel
theorem wd_K_law_307 : decode code 307 = .ok (.iadd, 1) := by decide +kernel
theorem wd_K_law_308 : decode code 308 = .ok (.iaload, 1) := by decide +kernel
theorem wd_K_law_309 : decode code 309 = .ok (.aload_n 0, 1) := by decide +kernel
theorem wd_K_law_310 : decode code 310 = .ok (.iload 4, 2) := by decide +kernel
theorem wd_K_law_312 : decode code 312 = .ok (.iconst 3, 1) := by decide +kernel
theorem wd_K_law_313 : decode code 313 = .ok (.iadd, 1) := by decide +kernel
theorem wd_K_law_314 : decode code 314 = .ok (.iaload, 1) := by decide +kernel
theorem wd_K_law_315 : decode code 315 = .ok (.aload_n 3, 1) := by decide +kernel
theorem wd_K_law_316 : decode code 316 = .ok (.invokestatic 85, 3) := by decide +kernel
theorem wd_K_law_319 : decode code 319 = .ok (.istore 5, 2) := by decide +kernel
theorem wd_K_law_321 : decode code 321 = .ok (.aload_n 2, 1) := by decide +kernel
theorem wd_K_law_322 : decode code 322 = .ok (.aload_n 0, 1) := by decide +kernel
theorem wd_K_law_323 : decode code 323 = .ok (.iload 4, 2) := by decide +kernel
theorem wd_K_law_325 : decode code 325 = .ok (.iconst 1, 1) := by decide +kernel
theorem wd_K_law_326 : decode code 326 = .ok (.iadd, 1) := by decide +kernel
theorem wd_K_law_327 : decode code 327 = .ok (.iaload, 1) := by decide +kernel
theorem wd_K_law_328 : decode code 328 = .ok (.aload_n 0, 1) := by decide +kernel
theorem wd_K_law_329 : decode code 329 = .ok (.iload 4, 2) := by decide +kernel
theorem wd_K_law_331 : decode code 331 = .ok (.iconst 2, 1) := by decide +kernel
theorem wd_K_law_332 : decode code 332 = .ok (.iadd, 1) := by decide +kernel
theorem wd_K_law_333 : decode code 333 = .ok (.iaload, 1) := by decide +kernel
theorem wd_K_law_334 : decode code 334 = .ok (.aload_n 0, 1) := by decide +kernel
theorem wd_K_law_335 : decode code 335 = .ok (.iload 4, 2) := by decide +kernel
theorem wd_K_law_337 : decode code 337 = .ok (.iconst 3, 1) := by decide +kernel
theorem wd_K_law_338 : decode code 338 = .ok (.iadd, 1) := by decide +kernel
theorem wd_K_law_339 : decode code 339 = .ok (.iaload, 1) := by decide +kernel
theorem wd_K_law_340 : decode code 340 = .ok (.invokevirtual 88, 3) := by decide +kernel
theorem wd_K_law_343 : decode code 343 = .ok (.istore 6, 2) := by decide +kernel
theorem wd_K_law_345 : decode code 345 = .ok (.aload_n 2, 1) := by decide +kernel
theorem wd_K_law_346 : decode code 346 = .ok (.invokevirtual 78, 3) := by decide +kernel
theorem wd_K_law_349 : decode code 349 = .ok (.iload 5, 2) := by decide +kernel
theorem wd_K_law_351 : decode code 351 = .ok (.if_icmp .eq 5, 3) := by decide +kernel
theorem wd_K_law_354 : decode code 354 = .ok (.iconst 0, 1) := by decide +kernel
theorem wd_K_law_355 : decode code 355 = .ok (.ireturn, 1) := by decide +kernel
theorem wd_K_law_356 : decode code 356 = .ok (.iload 5, 2) := by decide +kernel
theorem wd_K_law_358 : decode code 358 = .ok (.ifCond .ne 15, 3) := by decide +kernel
theorem wd_K_law_361 : decode code 361 = .ok (.aload_n 3, 1) := by decide +kernel
theorem wd_K_law_362 : decode code 362 = .ok (.iconst 0, 1) := by decide +kernel
theorem wd_K_law_363 : decode code 363 = .ok (.laload, 1) := by decide +kernel
theorem wd_K_law_364 : decode code 364 = .ok (.iload 6, 2) := by decide +kernel
theorem wd_K_law_366 : decode code 366 = .ok (.i2l, 1) := by decide +kernel
theorem wd_K_law_367 : decode code 367 = .ok (.lcmp, 1) := by decide +kernel
theorem wd_K_law_368 : decode code 368 = .ok (.ifCond .eq 5, 3) := by decide +kernel
theorem wd_K_law_371 : decode code 371 = .ok (.iconst 0, 1) := by decide +kernel
theorem wd_K_law_372 : decode code 372 = .ok (.ireturn, 1) := by decide +kernel
theorem wd_K_law_373 : decode code 373 = .ok (.goto 658, 3) := by decide +kernel
theorem wd_K_law_376 : decode code 376 = .ok (.aload_n 1, 1) := by decide +kernel
theorem wd_K_law_377 : decode code 377 = .ok (.aload_n 0, 1) := by decide +kernel
theorem wd_K_law_378 : decode code 378 = .ok (.iload 4, 2) := by decide +kernel
theorem wd_K_law_380 : decode code 380 = .ok (.iconst 1, 1) := by decide +kernel
theorem wd_K_law_381 : decode code 381 = .ok (.iadd, 1) := by decide +kernel
theorem wd_K_law_382 : decode code 382 = .ok (.iaload, 1) := by decide +kernel
theorem wd_K_law_383 : decode code 383 = .ok (.aload_n 0, 1) := by decide +kernel
theorem wd_K_law_384 : decode code 384 = .ok (.iload 4, 2) := by decide +kernel
theorem wd_K_law_386 : decode code 386 = .ok (.iconst 2, 1) := by decide +kernel
theorem wd_K_law_387 : decode code 387 = .ok (.iadd, 1) := by decide +kernel
theorem wd_K_law_388 : decode code 388 = .ok (.iaload, 1) := by decide +kernel
theorem wd_K_law_389 : decode code 389 = .ok (.invokestatic 89, 3) := by decide +kernel
theorem wd_K_law_392 : decode code 392 = .ok (.istore 5, 2) := by decide +kernel
theorem wd_K_law_394 : decode code 394 = .ok (.aload_n 2, 1) := by decide +kernel
theorem wd_K_law_395 : decode code 395 = .ok (.aload_n 0, 1) := by decide +kernel
theorem wd_K_law_396 : decode code 396 = .ok (.iload 4, 2) := by decide +kernel
theorem wd_K_law_398 : decode code 398 = .ok (.iconst 1, 1) := by decide +kernel
theorem wd_K_law_399 : decode code 399 = .ok (.iadd, 1) := by decide +kernel
theorem wd_K_law_400 : decode code 400 = .ok (.iaload, 1) := by decide +kernel
theorem wd_K_law_401 : decode code 401 = .ok (.aload_n 0, 1) := by decide +kernel
theorem wd_K_law_402 : decode code 402 = .ok (.iload 4, 2) := by decide +kernel
theorem wd_K_law_404 : decode code 404 = .ok (.iconst 2, 1) := by decide +kernel
theorem wd_K_law_405 : decode code 405 = .ok (.iadd, 1) := by decide +kernel
theorem wd_K_law_406 : decode code 406 = .ok (.iaload, 1) := by decide +kernel
theorem wd_K_law_407 : decode code 407 = .ok (.invokevirtual 92, 3) := by decide +kernel
theorem wd_K_law_410 : decode code 410 = .ok (.aload_n 2, 1) := by decide +kernel
theorem wd_K_law_411 : decode code 411 = .ok (.invokevirtual 78, 3) := by decide +kernel
theorem wd_K_law_414 : decode code 414 = .ok (.iload 5, 2) := by decide +kernel
theorem wd_K_law_416 : decode code 416 = .ok (.if_icmp .eq 5, 3) := by decide +kernel
theorem wd_K_law_419 : decode code 419 = .ok (.iconst 0, 1) := by decide +kernel
theorem wd_K_law_420 : decode code 420 = .ok (.ireturn, 1) := by decide +kernel
theorem wd_K_law_421 : decode code 421 = .ok (.goto 610, 3) := by decide +kernel
theorem wd_K_law_424 : decode code 424 = .ok (.aload_n 1, 1) := by decide +kernel
theorem wd_K_law_425 : decode code 425 = .ok (.aload_n 0, 1) := by decide +kernel
theorem wd_K_law_426 : decode code 426 = .ok (.iload 4, 2) := by decide +kernel
theorem wd_K_law_428 : decode code 428 = .ok (.iconst 1, 1) := by decide +kernel
theorem wd_K_law_429 : decode code 429 = .ok (.iadd, 1) := by decide +kernel
theorem wd_K_law_430 : decode code 430 = .ok (.iaload, 1) := by decide +kernel
theorem wd_K_law_431 : decode code 431 = .ok (.aload_n 0, 1) := by decide +kernel
theorem wd_K_law_432 : decode code 432 = .ok (.iload 4, 2) := by decide +kernel
theorem wd_K_law_434 : decode code 434 = .ok (.iconst 2, 1) := by decide +kernel
theorem wd_K_law_435 : decode code 435 = .ok (.iadd, 1) := by decide +kernel
theorem wd_K_law_436 : decode code 436 = .ok (.iaload, 1) := by decide +kernel
theorem wd_K_law_437 : decode code 437 = .ok (.invokestatic 93, 3) := by decide +kernel
theorem wd_K_law_440 : decode code 440 = .ok (.istore 5, 2) := by decide +kernel
theorem wd_K_law_442 : decode code 442 = .ok (.aload_n 2, 1) := by decide +kernel
theorem wd_K_law_443 : decode code 443 = .ok (.aload_n 0, 1) := by decide +kernel
theorem wd_K_law_444 : decode code 444 = .ok (.iload 4, 2) := by decide +kernel
theorem wd_K_law_446 : decode code 446 = .ok (.iconst 1, 1) := by decide +kernel
theorem wd_K_law_447 : decode code 447 = .ok (.iadd, 1) := by decide +kernel
theorem wd_K_law_448 : decode code 448 = .ok (.iaload, 1) := by decide +kernel
theorem wd_K_law_449 : decode code 449 = .ok (.aload_n 0, 1) := by decide +kernel
theorem wd_K_law_450 : decode code 450 = .ok (.iload 4, 2) := by decide +kernel
theorem wd_K_law_452 : decode code 452 = .ok (.iconst 2, 1) := by decide +kernel
theorem wd_K_law_453 : decode code 453 = .ok (.iadd, 1) := by decide +kernel
theorem wd_K_law_454 : decode code 454 = .ok (.iaload, 1) := by decide +kernel
theorem wd_K_law_455 : decode code 455 = .ok (.invokevirtual 95, 3) := by decide +kernel
theorem wd_K_law_458 : decode code 458 = .ok (.aload_n 2, 1) := by decide +kernel
theorem wd_K_law_459 : decode code 459 = .ok (.invokevirtual 78, 3) := by decide +kernel
theorem wd_K_law_462 : decode code 462 = .ok (.iload 5, 2) := by decide +kernel
theorem wd_K_law_464 : decode code 464 = .ok (.if_icmp .eq 5, 3) := by decide +kernel
theorem wd_K_law_467 : decode code 467 = .ok (.iconst 0, 1) := by decide +kernel
theorem wd_K_law_468 : decode code 468 = .ok (.ireturn, 1) := by decide +kernel
