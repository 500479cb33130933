theorem wd_K_law_269 : decode code 269 = .ok (.iconst 1, 1) := by decide +kernel
theorem wd_K_law_270 : decode code 270 = .ok (.iadd, 1) := by decide +kernel
theorem wd_K_law_271 : decode code 271 = .ok (.iaload, 1) := by decide +kernel
theorem wd_K_law_272 : decode code 272 = .ok (.aload_n 0, 1) := by decide +kernel
theorem wd_K_law_273 : decode code 273 = .ok (.iload 4, 2) := by decide +kernel
theorem wd_K_law_275 : decode code 275 = .ok (.iconst 2, 1) := by decide +kernel
theorem wd_K_law_276 : decode code 276 = .ok (.iadd, 1) := by decide +kernel
theorem wd_K_law_277 : decode code 277 = .ok (.iaload, 1) := by decide +kernel
theorem wd_K_law_278 : decode code 278 = .ok (.aload_n 0, 1) := by decide +kernel
theorem wd_K_law_279 : decode code 279 = .ok (.iload 4, 2) := by decide +kernel
theorem wd_K_law_281 : decode code 281 = .ok (.iconst 3, 1) := by decide +kernel
theorem wd_K_law_282 : decode code 282 = .ok (.iadd, 1) := by decide +kernel
theorem wd_K_law_283 : decode code 283 = .ok (.iaload, 1) := by decide +kernel
theorem wd_K_law_284 : decode code 284 = .ok (.invokevirtual 84, 3) := by decide +kernel
theorem wd_K_law_287 : decode code 287 = .ok (.istore 6, 2) := by decide +kernel
theorem wd_K_law_289 : decode code 289 = .ok (.goto 415, 3) := by decide +kernel
theorem wd_K_law_292 : decode code 292 = .ok (.aload_n 1, 1) := by decide +kernel
theorem wd_K_law_293 : decode code 293 = .ok (.aload_n 0, 1) := by decide +kernel
theorem wd_K_law_294 : decode code 294 = .ok (.iload 4, 2) := by decide +kernel
theorem wd_K_law_296 : decode code 296 = .ok (.iconst 1, 1) := by decide +kernel
theorem wd_K_law_297 : decode code 297 = .ok (.iadd, 1) := by decide +kernel
theorem wd_K_law_298 : decode code 298 = .ok (.iaload, 1) := by decide +kernel
theorem wd_K_law_299 : decode code 299 = .ok (.aload_n 0, 1) := by decide +kernel
theorem wd_K_law_300 : decode code 300 = .ok (.iload 4, 2) := by decide +kernel
theorem wd_K_law_302 : decode code 302 = .ok (.iconst 2, 1) := by decide +kernel
theorem wd_K_law_303 : decode code 303 = .ok (.iadd, 1) := by decide +kernel
theorem wd_K_law_304 : decode code 304 = .ok (.iaload, 1) := by decide +kernel
theorem wd_K_law_305 : decode code 305 = .ok (.invokestatic 85, 3) := by decide +kernel
theorem wd_K_law_308 : decode code 308 = .ok (.istore 5, 2) := by decide +kernel
theorem wd_K_law_310 : decode code 310 = .ok (.aload_n 2, 1) := by decide +kernel
theorem wd_K_law_311 : decode code 311 = .ok (.aload_n 0, 1) := by decide +kernel
theorem wd_K_law_312 : decode code 312 = .ok (.iload 4, 2) := by decide +kernel
theorem wd_K_law_314 : decode code 314 = .ok (.iconst 1, 1) := by decide +kernel
theorem wd_K_law_315 : decode code 315 = .ok (.iadd, 1) := by decide +kernel
theorem wd_K_law_316 : decode code 316 = .ok (.iaload, 1) := by decide +kernel
theorem wd_K_law_317 : decode code 317 = .ok (.aload_n 0, 1) := by decide +kernel
theorem wd_K_law_318 : decode code 318 = .ok (.iload 4, 2) := by decide +kernel
theorem wd_K_law_320 : decode code 320 = .ok (.iconst 2, 1) := by decide +kernel
theorem wd_K_law_321 : decode code 321 = .ok (.iadd, 1) := by decide +kernel
theorem wd_K_law_322 : decode code 322 = .ok (.iaload, 1) := by decide +kernel
theorem wd_K_law_323 : decode code 323 = .ok (.invokevirtual 88, 3) := by decide +kernel
theorem wd_K_law_326 : decode code 326 = .ok (.goto 378, 3) := by decide +kernel
theorem wd_K_law_329 : decode code 329 = .ok (.aload_n 1, 1) := by decide +kernel
theorem wd_K_law_330 : decode code 330 = .ok (.aload_n 0, 1) := by decide +kernel
theorem wd_K_law_331 : decode code 331 = .ok (.iload 4, 2) := by decide +kernel
theorem wd_K_law_333 : decode code 333 = .ok (.iconst 1, 1) := by decide +kernel
theorem wd_K_law_334 : decode code 334 = .ok (.iadd, 1) := by decide +kernel
theorem wd_K_law_335 : decode code 335 = .ok (.iaload, 1) := by decide +kernel
theorem wd_K_law_336 : decode code 336 = .ok (.aload_n 0, 1) := by decide +kernel
theorem wd_K_law_337 : decode code 337 = .ok (.iload 4, 2) := by decide +kernel
theorem wd_K_law_339 : decode code 339 = .ok (.iconst 2, 1) := by decide +kernel
theorem wd_K_law_340 : decode code 340 = .ok (.iadd, 1) := by decide +kernel
theorem wd_K_law_341 : decode code 341 = .ok (.iaload, 1) := by decide +kernel
theorem wd_K_law_342 : decode code 342 = .ok (.invokestatic 89, 3) := by decide +kernel
theorem wd_K_law_345 : decode code 345 = .ok (.istore 5, 2) := by decide +kernel
theorem wd_K_law_347 : decode code 347 = .ok (.aload_n 2, 1) := by decide +kernel
theorem wd_K_law_348 : decode code 348 = .ok (.aload_n 0, 1) := by decide +kernel
theorem wd_K_law_349 : decode code 349 = .ok (.iload 4, 2) := by decide +kernel
theorem wd_K_law_351 : decode code 351 = .ok (.iconst 1, 1) := by decide +kernel
theorem wd_K_law_352 : decode code 352 = .ok (.iadd, 1) := by decide +kernel
theorem wd_K_law_353 : decode code 353 = .ok (.iaload, 1) := by decide +kernel
theorem wd_K_law_354 : decode code 354 = .ok (.aload_n 0, 1) := by decide +kernel
theorem wd_K_law_355 : decode code 355 = .ok (.iload 4, 2) := by decide +kernel
theorem wd_K_law_357 : decode code 357 = .ok (.iconst 2, 1) := by decide +kernel
theorem wd_K_law_358 : decode code 358 = .ok (.iadd, 1) := by decide +kernel
theorem wd_K_law_359 : decode code 359 = .ok (.iaload, 1) := by decide +kernel
theorem wd_K_law_360 : decode code 360 = .ok (.invokevirtual 91, 3) := by decide +kernel
theorem wd_K_law_363 : decode code 363 = .ok (.goto 341, 3) := by decide +kernel
theorem wd_K_law_366 : decode code 366 = .ok (.aload_n 1, 1) := by decide +kernel
theorem wd_K_law_367 : decode code 367 = .ok (.aload_n 0, 1) := by decide +kernel
theorem wd_K_law_368 : decode code 368 = .ok (.iload 4, 2) := by decide +kernel
theorem wd_K_law_370 : decode code 370 = .ok (.iconst 1, 1) := by decide +kernel
theorem wd_K_law_371 : decode code 371 = .ok (.iadd, 1) := by decide +kernel
theorem wd_K_law_372 : decode code 372 = .ok (.iaload, 1) := by decide +kernel
theorem wd_K_law_373 : decode code 373 = .ok (.aload_n 0, 1) := by decide +kernel
theorem wd_K_law_374 : decode code 374 = .ok (.iload 4, 2) := by decide +kernel
theorem wd_K_law_376 : decode code 376 = .ok (.iconst 2, 1) := by decide +kernel
theorem wd_K_law_377 : decode code 377 = .ok (.iadd, 1) := by decide +kernel
theorem wd_K_law_378 : decode code 378 = .ok (.iaload, 1) := by decide +kernel
theorem wd_K_law_379 : decode code 379 = .ok (.aload_n 0, 1) := by decide +kernel
theorem wd_K_law_380 : decode code 380 = .ok (.iload 4, 2) := by decide +kernel
theorem wd_K_law_382 : decode code 382 = .ok (.iconst 3, 1) := by decide +kernel
theorem wd_K_law_383 : decode code 383 = .ok (.iadd, 1) := by decide +kernel
theorem wd_K_law_384 : decode code 384 = .ok (.iaload, 1) := by decide +kernel
theorem wd_K_law_385 : decode code 385 = .ok (.aload_n 0, 1) := by decide +kernel
theorem wd_K_law_386 : decode code 386 = .ok (.iload 4, 2) := by decide +kernel
theorem wd_K_law_388 : decode code 388 = .ok (.iconst 4, 1) := by decide +kernel
theorem wd_K_law_389 : decode code 389 = .ok (.iadd, 1) := by decide +kernel
theorem wd_K_law_390 : decode code 390 = .ok (.iaload, 1) := by decide +kernel
theorem wd_K_law_391 : decode code 391 = .ok (.invokestatic 92, 3) := by decide +kernel
theorem wd_K_law_394 : decode code 394 = .ok (.istore 5, 2) := by decide +kernel
theorem wd_K_law_396 : decode code 396 = .ok (.aload_n 2, 1) := by decide +kernel
theorem wd_K_law_397 : decode code 397 = .ok (.aload_n 0, 1) := by decide +kernel
theorem wd_K_law_398 : decode code 398 = .ok (.iload 4, 2) := by decide +kernel
theorem wd_K_law_400 : decode code 400 = .ok (.iconst 1, 1) := by decide +kernel
theorem wd_K_law_401 : decode code 401 = .ok (.iadd, 1) := by decide +kernel
theorem wd_K_law_402 : decode code 402 = .ok (.iaload, 1) := by decide +kernel
theorem wd_K_law_403 : decode code 403 = .ok (.aload_n 0, 1) := by decide +kernel
theorem wd_K_law_404 : decode code 404 = .ok (.iload 4, 2) := by decide +kernel
theorem wd_K_law_406 : decode code 406 = .ok (.iconst 2, 1) := by decide +kernel
theorem wd_K_law_407 : decode code 407 = .ok (.iadd, 1) := by decide +kernel
theorem wd_K_law_408 : decode code 408 = .ok (.iaload, 1) := by decide +kernel
theorem wd_K_law_409 : decode code 409 = .ok (.aload_n 0, 1) := by decide +kernel
theorem wd_K_law_410 : decode code 410 = .ok (.iload 4, 2) := by decide +kernel
theorem wd_K_law_412 : decode code 412 = .ok (.iconst 3, 1) := by decide +kernel
theorem wd_K_law_413 : decode code 413 = .ok (.iadd, 1) := by decide +kernel
theorem wd_K_law_414 : decode code 414 = .ok (.iaload, 1) := by decide +kernel
theorem wd_K_law_415 : decode code 415 = .ok (.aload_n 0, 1) := by decide +kernel
theorem wd_K_law_416 : decode code 416 = .ok (.iload 4, 2) := by decide +kernel
theorem wd_K_law_418 : decode code 418 = .ok (.iconst 4, 1) := by decide +kernel
theorem wd_K_law_419 : decode code 419 = .ok (.iadd, 1) := by decide +kernel
theorem wd_K_law_420 : decode code 420 = .ok (.iaload, 1) := by decide +kernel
theorem wd_K_law_421 : decode code 421 = .ok (.invokevirtual 95, 3) := by decide +kernel
theorem wd_K_law_424 : decode code 424 = .ok (.aload_n 2, 1) := by decide +kernel
theorem wd_K_law_425 : decode code 425 = .ok (.invokevirtual 96, 3) := by decide +kernel
theorem wd_K_law_428 : decode code 428 = .ok (.iload 5, 2) := by decide +kernel
theorem wd_K_law_430 : decode code 430 = .ok (.if_icmp .eq 5, 3) := by decide +kernel
theorem wd_K_law_433 : decode code 433 = .ok (.iconst 0, 1) := by decide +kernel
theorem wd_K_law_434 : decode code 434 = .ok (.ireturn, 1) := by decide +kernel
theorem wd_K_law_435 : decode code 435 = .ok (.goto 269, 3) := by decide +kernel
theorem wd_K_law_438 : decode code 438 = .ok (.aload_n 1, 1) := by decide +kernel
theorem wd_K_law_439 : decode code 439 = .ok (.aload_n 0, 1) := by decide +kernel
theorem wd_K_law_440 : decode code 440 = .ok (.iload 4, 2) := by decide +kernel
theorem wd_K_law_442 : decode code 442 = .ok (.iconst 1, 1) := by decide +kernel
theorem wd_K_law_443 : decode code 443 = .ok (.iadd, 1) := by decide +kernel
theorem wd_K_law_444 : decode code 444 = .ok (.iaload, 1) := by decide +kernel
theorem wd_K_law_445 : decode code 445 = .ok (.aload_n 3, 1) := by decide +kernel
theorem wd_K_law_446 : decode code 446 = .ok (.invokestatic 100, 3) := by decide +kernel
theorem wd_K_law_449 : decode code 449 = .ok (.istore 5, 2) := by decide +kernel
theorem wd_K_law_451 : decode code 451 = .ok (.aload_n 2, 1) := by decide +kernel
