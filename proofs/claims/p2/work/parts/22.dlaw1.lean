theorem wd_K_law_274 : decode code 274 = .ok (.iaload, 1) := by decide +kernel
theorem wd_K_law_275 : decode code 275 = .ok (.aload_n 0, 1) := by decide +kernel
theorem wd_K_law_276 : decode code 276 = .ok (.iload 4, 2) := by decide +kernel
theorem wd_K_law_278 : decode code 278 = .ok (.iconst 2, 1) := by decide +kernel
theorem wd_K_law_279 : decode code 279 = .ok (.iadd, 1) := by decide +kernel
theorem wd_K_law_280 : decode code 280 = .ok (.iaload, 1) := by decide +kernel
theorem wd_K_law_281 : decode code 281 = .ok (.aload_n 0, 1) := by decide +kernel
theorem wd_K_law_282 : decode code 282 = .ok (.iload 4, 2) := by decide +kernel
theorem wd_K_law_284 : decode code 284 = .ok (.iconst 3, 1) := by decide +kernel
theorem wd_K_law_285 : decode code 285 = .ok (.iadd, 1) := by decide +kernel
theorem wd_K_law_286 : decode code 286 = .ok (.iaload, 1) := by decide +kernel
theorem wd_K_law_287 : decode code 287 = .ok (.aload_n 3, 1) := by decide +kernel
theorem wd_K_law_288 : decode code 288 = .ok (.invokestatic 85, 3) := by decide +kernel
theorem wd_K_law_291 : decode code 291 = .ok (.istore 5, 2) := by decide +kernel
theorem wd_K_law_293 : decode code 293 = .ok (.aload_n 2, 1) := by decide +kernel
theorem wd_K_law_294 : decode code 294 = .ok (.aload_n 0, 1) := by decide +kernel
theorem wd_K_law_295 : decode code 295 = .ok (.iload 4, 2) := by decide +kernel
theorem wd_K_law_297 : decode code 297 = .ok (.iconst 1, 1) := by decide +kernel
theorem wd_K_law_298 : decode code 298 = .ok (.iadd, 1) := by decide +kernel
theorem wd_K_law_299 : decode code 299 = .ok (.iaload, 1) := by decide +kernel
theorem wd_K_law_300 : decode code 300 = .ok (.aload_n 0, 1) := by decide +kernel
theorem wd_K_law_301 : decode code 301 = .ok (.iload 4, 2) := by decide +kernel
theorem wd_K_law_303 : decode code 303 = .ok (.iconst 2, 1) := by decide +kernel
theorem wd_K_law_304 : decode code 304 = .ok (.iadd, 1) := by decide +kernel
theorem wd_K_law_305 : decode code 305 = .ok (.iaload, 1) := by decide +kernel
theorem wd_K_law_306 : decode code 306 = .ok (.aload_n 0, 1) := by decide +kernel
theorem wd_K_law_307 : decode code 307 = .ok (.iload 4, 2) := by decide +kernel
theorem wd_K_law_309 : decode code 309 = .ok (.iconst 3, 1) := by decide +kernel
theorem wd_K_law_310 : decode code 310 = .ok (.iadd, 1) := by decide +kernel
theorem wd_K_law_311 : decode code 311 = .ok (.iaload, 1) := by decide +kernel
theorem wd_K_law_312 : decode code 312 = .ok (.invokevirtual 88, 3) := by decide +kernel
theorem wd_K_law_315 : decode code 315 = .ok (.istore 6, 2) := by decide +kernel
theorem wd_K_law_317 : decode code 317 = .ok (.goto 404, 3) := by decide +kernel
theorem wd_K_law_320 : decode code 320 = .ok (.aload_n 1, 1) := by decide +kernel
theorem wd_K_law_321 : decode code 321 = .ok (.aload_n 0, 1) := by decide +kernel
theorem wd_K_law_322 : decode code 322 = .ok (.iload 4, 2) := by decide +kernel
theorem wd_K_law_324 : decode code 324 = .ok (.iconst 1, 1) := by decide +kernel
theorem wd_K_law_325 : decode code 325 = .ok (.iadd, 1) := by decide +kernel
theorem wd_K_law_326 : decode code 326 = .ok (.iaload, 1) := by decide +kernel
theorem wd_K_law_327 : decode code 327 = .ok (.aload_n 0, 1) := by decide +kernel
theorem wd_K_law_328 : decode code 328 = .ok (.iload 4, 2) := by decide +kernel
theorem wd_K_law_330 : decode code 330 = .ok (.iconst 2, 1) := by decide +kernel
theorem wd_K_law_331 : decode code 331 = .ok (.iadd, 1) := by decide +kernel
theorem wd_K_law_332 : decode code 332 = .ok (.iaload, 1) := by decide +kernel
theorem wd_K_law_333 : decode code 333 = .ok (.invokestatic 89, 3) := by decide +kernel
theorem wd_K_law_336 : decode code 336 = .ok (.istore 5, 2) := by decide +kernel
theorem wd_K_law_338 : decode code 338 = .ok (.aload_n 2, 1) := by decide +kernel
theorem wd_K_law_339 : decode code 339 = .ok (.aload_n 0, 1) := by decide +kernel
theorem wd_K_law_340 : decode code 340 = .ok (.iload 4, 2) := by decide +kernel
theorem wd_K_law_342 : decode code 342 = .ok (.iconst 1, 1) := by decide +kernel
theorem wd_K_law_343 : decode code 343 = .ok (.iadd, 1) := by decide +kernel
theorem wd_K_law_344 : decode code 344 = .ok (.iaload, 1) := by decide +kernel
theorem wd_K_law_345 : decode code 345 = .ok (.aload_n 0, 1) := by decide +kernel
theorem wd_K_law_346 : decode code 346 = .ok (.iload 4, 2) := by decide +kernel
theorem wd_K_law_348 : decode code 348 = .ok (.iconst 2, 1) := by decide +kernel
theorem wd_K_law_349 : decode code 349 = .ok (.iadd, 1) := by decide +kernel
theorem wd_K_law_350 : decode code 350 = .ok (.iaload, 1) := by decide +kernel
theorem wd_K_law_351 : decode code 351 = .ok (.invokevirtual 92, 3) := by decide +kernel
theorem wd_K_law_354 : decode code 354 = .ok (.goto 367, 3) := by decide +kernel
theorem wd_K_law_357 : decode code 357 = .ok (.aload_n 1, 1) := by decide +kernel
theorem wd_K_law_358 : decode code 358 = .ok (.aload_n 0, 1) := by decide +kernel
theorem wd_K_law_359 : decode code 359 = .ok (.iload 4, 2) := by decide +kernel
theorem wd_K_law_361 : decode code 361 = .ok (.iconst 1, 1) := by decide +kernel
theorem wd_K_law_362 : decode code 362 = .ok (.iadd, 1) := by decide +kernel
theorem wd_K_law_363 : decode code 363 = .ok (.iaload, 1) := by decide +kernel
theorem wd_K_law_364 : decode code 364 = .ok (.aload_n 0, 1) := by decide +kernel
theorem wd_K_law_365 : decode code 365 = .ok (.iload 4, 2) := by decide +kernel
theorem wd_K_law_367 : decode code 367 = .ok (.iconst 2, 1) := by decide +kernel
theorem wd_K_law_368 : decode code 368 = .ok (.iadd, 1) := by decide +kernel
theorem wd_K_law_369 : decode code 369 = .ok (.iaload, 1) := by decide +kernel
theorem wd_K_law_370 : decode code 370 = .ok (.invokestatic 93, 3) := by decide +kernel
theorem wd_K_law_373 : decode code 373 = .ok (.istore 5, 2) := by decide +kernel
theorem wd_K_law_375 : decode code 375 = .ok (.aload_n 2, 1) := by decide +kernel
theorem wd_K_law_376 : decode code 376 = .ok (.aload_n 0, 1) := by decide +kernel
theorem wd_K_law_377 : decode code 377 = .ok (.iload 4, 2) := by decide +kernel
theorem wd_K_law_379 : decode code 379 = .ok (.iconst 1, 1) := by decide +kernel
theorem wd_K_law_380 : decode code 380 = .ok (.iadd, 1) := by decide +kernel
theorem wd_K_law_381 : decode code 381 = .ok (.iaload, 1) := by decide +kernel
theorem wd_K_law_382 : decode code 382 = .ok (.aload_n 0, 1) := by decide +kernel
theorem wd_K_law_383 : decode code 383 = .ok (.iload 4, 2) := by decide +kernel
theorem wd_K_law_385 : decode code 385 = .ok (.iconst 2, 1) := by decide +kernel
theorem wd_K_law_386 : decode code 386 = .ok (.iadd, 1) := by decide +kernel
theorem wd_K_law_387 : decode code 387 = .ok (.iaload, 1) := by decide +kernel
theorem wd_K_law_388 : decode code 388 = .ok (.invokevirtual 95, 3) := by decide +kernel
theorem wd_K_law_391 : decode code 391 = .ok (.goto 330, 3) := by decide +kernel
theorem wd_K_law_394 : decode code 394 = .ok (.aload_n 1, 1) := by decide +kernel
theorem wd_K_law_395 : decode code 395 = .ok (.aload_n 0, 1) := by decide +kernel
theorem wd_K_law_396 : decode code 396 = .ok (.iload 4, 2) := by decide +kernel
theorem wd_K_law_398 : decode code 398 = .ok (.iconst 1, 1) := by decide +kernel
theorem wd_K_law_399 : decode code 399 = .ok (.iadd, 1) := by decide +kernel
theorem wd_K_law_400 : decode code 400 = .ok (.iaload, 1) := by decide +kernel
theorem wd_K_law_401 : decode code 401 = .ok (.aload_n 0, 1) := by decide +kernel
theorem wd_K_law_402 : decode code 402 = .ok (.iload 4, 2) := by decide +kernel
theorem wd_K_law_404 : decode code 404 = .ok (.iconst 2, 1) := by decide +kernel
theorem wd_K_law_405 : decode code 405 = .ok (.iadd, 1) := by decide +kernel
theorem wd_K_law_406 : decode code 406 = .ok (.iaload, 1) := by decide +kernel
theorem wd_K_law_407 : decode code 407 = .ok (.aload_n 0, 1) := by decide +kernel
theorem wd_K_law_408 : decode code 408 = .ok (.iload 4, 2) := by decide +kernel
theorem wd_K_law_410 : decode code 410 = .ok (.iconst 3, 1) := by decide +kernel
theorem wd_K_law_411 : decode code 411 = .ok (.iadd, 1) := by decide +kernel
theorem wd_K_law_412 : decode code 412 = .ok (.iaload, 1) := by decide +kernel
theorem wd_K_law_413 : decode code 413 = .ok (.aload_n 0, 1) := by decide +kernel
theorem wd_K_law_414 : decode code 414 = .ok (.iload 4, 2) := by decide +kernel
theorem wd_K_law_416 : decode code 416 = .ok (.iconst 4, 1) := by decide +kernel
theorem wd_K_law_417 : decode code 417 = .ok (.iadd, 1) := by decide +kernel
theorem wd_K_law_418 : decode code 418 = .ok (.iaload, 1) := by decide +kernel
theorem wd_K_law_419 : decode code 419 = .ok (.invokestatic 96, 3) := by decide +kernel
theorem wd_K_law_422 : decode code 422 = .ok (.istore 5, 2) := by decide +kernel
theorem wd_K_law_424 : decode code 424 = .ok (.aload_n 2, 1) := by decide +kernel
theorem wd_K_law_425 : decode code 425 = .ok (.aload_n 0, 1) := by decide +kernel
theorem wd_K_law_426 : decode code 426 = .ok (.iload 4, 2) := by decide +kernel
theorem wd_K_law_428 : decode code 428 = .ok (.iconst 1, 1) := by decide +kernel
theorem wd_K_law_429 : decode code 429 = .ok (.iadd, 1) := by decide +kernel
theorem wd_K_law_430 : decode code 430 = .ok (.iaload, 1) := by decide +kernel
theorem wd_K_law_431 : decode code 431 = .ok (.aload_n 0, 1) := by decide +kernel
theorem wd_K_law_432 : decode code 432 = .ok (.iload 4, 2) := by decide +kernel
theorem wd_K_law_434 : decode code 434 = .ok (.iconst 2, 1) := by decide +kernel
theorem wd_K_law_435 : decode code 435 = .ok (.iadd, 1) := by decide +kernel
theorem wd_K_law_436 : decode code 436 = .ok (.iaload, 1) := by decide +kernel
theorem wd_K_law_437 : decode code 437 = .ok (.aload_n 0, 1) := by decide +kernel
theorem wd_K_law_438 : decode code 438 = .ok (.iload 4, 2) := by decide +kernel
theorem wd_K_law_440 : decode code 440 = .ok (.iconst 3, 1) := by decide +kernel
theorem wd_K_law_441 : decode code 441 = .ok (.iadd, 1) := by decide +kernel
theorem wd_K_law_442 : decode code 442 = .ok (.iaload, 1) := by decide +kernel
theorem wd_K_law_443 : decode code 443 = .ok (.aload_n 0, 1) := by decide +kernel
theorem wd_K_law_444 : decode code 444 = .ok (.iload 4, 2) := by decide +kernel
theorem wd_K_law_446 : decode code 446 = .ok (.iconst 4, 1) := by decide +kernel
theorem wd_K_law_447 : decode code 447 = .ok (.iadd, 1) := by decide +kernel
theorem wd_K_law_448 : decode code 448 = .ok (.iaload, 1) := by decide +kernel
theorem wd_K_law_449 : decode code 449 = .ok (.invokevirtual 99, 3) := by decide +kernel
