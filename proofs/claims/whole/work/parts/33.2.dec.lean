theorem d_Law_law_302 : decode code 302 = .ok (.iload_n 3, 1) := by decide +kernel
theorem d_Law_law_303 : decode code 303 = .ok (.iconst 1, 1) := by decide +kernel
theorem d_Law_law_304 : decode code 304 = .ok (.iadd, 1) := by decide +kernel
theorem d_Law_law_305 : decode code 305 = .ok (.iaload, 1) := by decide +kernel
theorem d_Law_law_306 : decode code 306 = .ok (.invokevirtual 37, 3) := by decide +kernel
theorem d_Law_law_309 : decode code 309 = .ok (.if_icmp .eq 136, 3) := by decide +kernel
theorem d_Law_law_312 : decode code 312 = .ok (.iconst 0, 1) := by decide +kernel
theorem d_Law_law_313 : decode code 313 = .ok (.ireturn, 1) := by decide +kernel
theorem d_Law_law_314 : decode code 314 = .ok (.aload_n 1, 1) := by decide +kernel
theorem d_Law_law_315 : decode code 315 = .ok (.aload_n 0, 1) := by decide +kernel
theorem d_Law_law_316 : decode code 316 = .ok (.iload_n 3, 1) := by decide +kernel
theorem d_Law_law_317 : decode code 317 = .ok (.iconst 1, 1) := by decide +kernel
theorem d_Law_law_318 : decode code 318 = .ok (.iadd, 1) := by decide +kernel
theorem d_Law_law_319 : decode code 319 = .ok (.iaload, 1) := by decide +kernel
theorem d_Law_law_320 : decode code 320 = .ok (.invokevirtual 38, 3) := by decide +kernel
theorem d_Law_law_323 : decode code 323 = .ok (.aload_n 2, 1) := by decide +kernel
theorem d_Law_law_324 : decode code 324 = .ok (.aload_n 0, 1) := by decide +kernel
theorem d_Law_law_325 : decode code 325 = .ok (.iload_n 3, 1) := by decide +kernel
theorem d_Law_law_326 : decode code 326 = .ok (.iconst 1, 1) := by decide +kernel
theorem d_Law_law_327 : decode code 327 = .ok (.iadd, 1) := by decide +kernel
theorem d_Law_law_328 : decode code 328 = .ok (.iaload, 1) := by decide +kernel
theorem d_Law_law_329 : decode code 329 = .ok (.invokevirtual 41, 3) := by decide +kernel
theorem d_Law_law_332 : decode code 332 = .ok (.if_icmp .eq 113, 3) := by decide +kernel
theorem d_Law_law_335 : decode code 335 = .ok (.iconst 0, 1) := by decide +kernel
theorem d_Law_law_336 : decode code 336 = .ok (.ireturn, 1) := by decide +kernel
theorem d_Law_law_337 : decode code 337 = .ok (.aload_n 1, 1) := by decide +kernel
theorem d_Law_law_338 : decode code 338 = .ok (.invokevirtual 42, 3) := by decide +kernel
theorem d_Law_law_341 : decode code 341 = .ok (.aload_n 2, 1) := by decide +kernel
theorem d_Law_law_342 : decode code 342 = .ok (.invokevirtual 46, 3) := by decide +kernel
theorem d_Law_law_345 : decode code 345 = .ok (.if_icmp .eq 100, 3) := by decide +kernel
theorem d_Law_law_348 : decode code 348 = .ok (.iconst 0, 1) := by decide +kernel
theorem d_Law_law_349 : decode code 349 = .ok (.ireturn, 1) := by decide +kernel
theorem d_Law_law_350 : decode code 350 = .ok (.aload_n 1, 1) := by decide +kernel
theorem d_Law_law_351 : decode code 351 = .ok (.invokevirtual 47, 3) := by decide +kernel
theorem d_Law_law_354 : decode code 354 = .ok (.aload_n 2, 1) := by decide +kernel
theorem d_Law_law_355 : decode code 355 = .ok (.invokevirtual 50, 3) := by decide +kernel
theorem d_Law_law_358 : decode code 358 = .ok (.if_icmp .eq 87, 3) := by decide +kernel
theorem d_Law_law_361 : decode code 361 = .ok (.iconst 0, 1) := by decide +kernel
theorem d_Law_law_362 : decode code 362 = .ok (.ireturn, 1) := by decide +kernel
theorem d_Law_law_363 : decode code 363 = .ok (.aload_n 1, 1) := by decide +kernel
theorem d_Law_law_364 : decode code 364 = .ok (.aload_n 0, 1) := by decide +kernel
theorem d_Law_law_365 : decode code 365 = .ok (.iload_n 3, 1) := by decide +kernel
theorem d_Law_law_366 : decode code 366 = .ok (.iconst 1, 1) := by decide +kernel
theorem d_Law_law_367 : decode code 367 = .ok (.iadd, 1) := by decide +kernel
theorem d_Law_law_368 : decode code 368 = .ok (.iaload, 1) := by decide +kernel
theorem d_Law_law_369 : decode code 369 = .ok (.aload_n 0, 1) := by decide +kernel
theorem d_Law_law_370 : decode code 370 = .ok (.iload_n 3, 1) := by decide +kernel
theorem d_Law_law_371 : decode code 371 = .ok (.iconst 2, 1) := by decide +kernel
theorem d_Law_law_372 : decode code 372 = .ok (.iadd, 1) := by decide +kernel
theorem d_Law_law_373 : decode code 373 = .ok (.iaload, 1) := by decide +kernel
theorem d_Law_law_374 : decode code 374 = .ok (.invokevirtual 51, 3) := by decide +kernel
theorem d_Law_law_377 : decode code 377 = .ok (.aload_n 2, 1) := by decide +kernel
theorem d_Law_law_378 : decode code 378 = .ok (.aload_n 0, 1) := by decide +kernel
theorem d_Law_law_379 : decode code 379 = .ok (.iload_n 3, 1) := by decide +kernel
theorem d_Law_law_380 : decode code 380 = .ok (.iconst 1, 1) := by decide +kernel
theorem d_Law_law_381 : decode code 381 = .ok (.iadd, 1) := by decide +kernel
theorem d_Law_law_382 : decode code 382 = .ok (.iaload, 1) := by decide +kernel
theorem d_Law_law_383 : decode code 383 = .ok (.aload_n 0, 1) := by decide +kernel
theorem d_Law_law_384 : decode code 384 = .ok (.iload_n 3, 1) := by decide +kernel
theorem d_Law_law_385 : decode code 385 = .ok (.iconst 2, 1) := by decide +kernel
theorem d_Law_law_386 : decode code 386 = .ok (.iadd, 1) := by decide +kernel
theorem d_Law_law_387 : decode code 387 = .ok (.iaload, 1) := by decide +kernel
theorem d_Law_law_388 : decode code 388 = .ok (.invokevirtual 55, 3) := by decide +kernel
theorem d_Law_law_391 : decode code 391 = .ok (.if_icmp .eq 54, 3) := by decide +kernel
theorem d_Law_law_394 : decode code 394 = .ok (.iconst 0, 1) := by decide +kernel
theorem d_Law_law_395 : decode code 395 = .ok (.ireturn, 1) := by decide +kernel
theorem d_Law_law_396 : decode code 396 = .ok (.aload_n 1, 1) := by decide +kernel
theorem d_Law_law_397 : decode code 397 = .ok (.aload_n 0, 1) := by decide +kernel
theorem d_Law_law_398 : decode code 398 = .ok (.iload_n 3, 1) := by decide +kernel
theorem d_Law_law_399 : decode code 399 = .ok (.iconst 1, 1) := by decide +kernel
theorem d_Law_law_400 : decode code 400 = .ok (.iadd, 1) := by decide +kernel
theorem d_Law_law_401 : decode code 401 = .ok (.iaload, 1) := by decide +kernel
theorem d_Law_law_402 : decode code 402 = .ok (.aload_n 0, 1) := by decide +kernel
theorem d_Law_law_403 : decode code 403 = .ok (.iload_n 3, 1) := by decide +kernel
theorem d_Law_law_404 : decode code 404 = .ok (.iconst 2, 1) := by decide +kernel
theorem d_Law_law_405 : decode code 405 = .ok (.iadd, 1) := by decide +kernel
theorem d_Law_law_406 : decode code 406 = .ok (.iaload, 1) := by decide +kernel
theorem d_Law_law_407 : decode code 407 = .ok (.ifCond .eq 7, 3) := by decide +kernel
theorem d_Law_law_410 : decode code 410 = .ok (.iconst 1, 1) := by decide +kernel
theorem d_Law_law_411 : decode code 411 = .ok (.goto 4, 3) := by decide +kernel
theorem d_Law_law_414 : decode code 414 = .ok (.iconst 0, 1) := by decide +kernel
theorem d_Law_law_415 : decode code 415 = .ok (.invokevirtual 56, 3) := by decide +kernel
theorem d_Law_law_418 : decode code 418 = .ok (.aload_n 2, 1) := by decide +kernel
theorem d_Law_law_419 : decode code 419 = .ok (.aload_n 0, 1) := by decide +kernel
theorem d_Law_law_420 : decode code 420 = .ok (.iload_n 3, 1) := by decide +kernel
theorem d_Law_law_421 : decode code 421 = .ok (.iconst 1, 1) := by decide +kernel
theorem d_Law_law_422 : decode code 422 = .ok (.iadd, 1) := by decide +kernel
theorem d_Law_law_423 : decode code 423 = .ok (.iaload, 1) := by decide +kernel
theorem d_Law_law_424 : decode code 424 = .ok (.aload_n 0, 1) := by decide +kernel
theorem d_Law_law_425 : decode code 425 = .ok (.iload_n 3, 1) := by decide +kernel
theorem d_Law_law_426 : decode code 426 = .ok (.iconst 2, 1) := by decide +kernel
theorem d_Law_law_427 : decode code 427 = .ok (.iadd, 1) := by decide +kernel
theorem d_Law_law_428 : decode code 428 = .ok (.iaload, 1) := by decide +kernel
theorem d_Law_law_429 : decode code 429 = .ok (.ifCond .eq 7, 3) := by decide +kernel
theorem d_Law_law_432 : decode code 432 = .ok (.iconst 1, 1) := by decide +kernel
theorem d_Law_law_433 : decode code 433 = .ok (.goto 4, 3) := by decide +kernel
theorem d_Law_law_436 : decode code 436 = .ok (.iconst 0, 1) := by decide +kernel
theorem d_Law_law_437 : decode code 437 = .ok (.invokevirtual 60, 3) := by decide +kernel
theorem d_Law_law_440 : decode code 440 = .ok (.if_icmp .eq 5, 3) := by decide +kernel
theorem d_Law_law_443 : decode code 443 = .ok (.iconst 0, 1) := by decide +kernel
theorem d_Law_law_444 : decode code 444 = .ok (.ireturn, 1) := by decide +kernel
theorem d_Law_law_445 : decode code 445 = .ok (.iinc 3 6, 3) := by decide +kernel
theorem d_Law_law_448 : decode code 448 = .ok (.goto (-430), 3) := by decide +kernel
theorem d_Law_law_451 : decode code 451 = .ok (.iconst 1, 1) := by decide +kernel
theorem d_Law_law_452 : decode code 452 = .ok (.ireturn, 1) := by decide +kernel
