theorem d_law_law_342 : decode code 342 = .ok (.iload_n 3, 1) := by decide +kernel
theorem d_law_law_343 : decode code 343 = .ok (.iconst 1, 1) := by decide +kernel
theorem d_law_law_344 : decode code 344 = .ok (.iadd, 1) := by decide +kernel
theorem d_law_law_345 : decode code 345 = .ok (.iaload, 1) := by decide +kernel
theorem d_law_law_346 : decode code 346 = .ok (.aload_n 0, 1) := by decide +kernel
theorem d_law_law_347 : decode code 347 = .ok (.iload_n 3, 1) := by decide +kernel
theorem d_law_law_348 : decode code 348 = .ok (.iconst 2, 1) := by decide +kernel
theorem d_law_law_349 : decode code 349 = .ok (.iadd, 1) := by decide +kernel
theorem d_law_law_350 : decode code 350 = .ok (.iaload, 1) := by decide +kernel
theorem d_law_law_351 : decode code 351 = .ok (.invokevirtual 54, 3) := by decide +kernel
theorem d_law_law_354 : decode code 354 = .ok (.if_icmp .eq 233, 3) := by decide +kernel
theorem d_law_law_357 : decode code 357 = .ok (.iconst 0, 1) := by decide +kernel
theorem d_law_law_358 : decode code 358 = .ok (.ireturn, 1) := by decide +kernel
theorem d_law_law_359 : decode code 359 = .ok (.aload_n 1, 1) := by decide +kernel
theorem d_law_law_360 : decode code 360 = .ok (.aload_n 0, 1) := by decide +kernel
theorem d_law_law_361 : decode code 361 = .ok (.iload_n 3, 1) := by decide +kernel
theorem d_law_law_362 : decode code 362 = .ok (.iconst 1, 1) := by decide +kernel
theorem d_law_law_363 : decode code 363 = .ok (.iadd, 1) := by decide +kernel
theorem d_law_law_364 : decode code 364 = .ok (.iaload, 1) := by decide +kernel
theorem d_law_law_365 : decode code 365 = .ok (.aload_n 0, 1) := by decide +kernel
theorem d_law_law_366 : decode code 366 = .ok (.iload_n 3, 1) := by decide +kernel
theorem d_law_law_367 : decode code 367 = .ok (.iconst 2, 1) := by decide +kernel
theorem d_law_law_368 : decode code 368 = .ok (.iadd, 1) := by decide +kernel
theorem d_law_law_369 : decode code 369 = .ok (.iaload, 1) := by decide +kernel
theorem d_law_law_370 : decode code 370 = .ok (.invokevirtual 55, 3) := by decide +kernel
theorem d_law_law_373 : decode code 373 = .ok (.aload_n 2, 1) := by decide +kernel
theorem d_law_law_374 : decode code 374 = .ok (.aload_n 0, 1) := by decide +kernel
theorem d_law_law_375 : decode code 375 = .ok (.iload_n 3, 1) := by decide +kernel
theorem d_law_law_376 : decode code 376 = .ok (.iconst 1, 1) := by decide +kernel
theorem d_law_law_377 : decode code 377 = .ok (.iadd, 1) := by decide +kernel
theorem d_law_law_378 : decode code 378 = .ok (.iaload, 1) := by decide +kernel
theorem d_law_law_379 : decode code 379 = .ok (.aload_n 0, 1) := by decide +kernel
theorem d_law_law_380 : decode code 380 = .ok (.iload_n 3, 1) := by decide +kernel
theorem d_law_law_381 : decode code 381 = .ok (.iconst 2, 1) := by decide +kernel
theorem d_law_law_382 : decode code 382 = .ok (.iadd, 1) := by decide +kernel
theorem d_law_law_383 : decode code 383 = .ok (.iaload, 1) := by decide +kernel
theorem d_law_law_384 : decode code 384 = .ok (.invokevirtual 58, 3) := by decide +kernel
theorem d_law_law_387 : decode code 387 = .ok (.if_icmp .eq 200, 3) := by decide +kernel
theorem d_law_law_390 : decode code 390 = .ok (.iconst 0, 1) := by decide +kernel
theorem d_law_law_391 : decode code 391 = .ok (.ireturn, 1) := by decide +kernel
theorem d_law_law_392 : decode code 392 = .ok (.aload_n 1, 1) := by decide +kernel
theorem d_law_law_393 : decode code 393 = .ok (.invokevirtual 59, 3) := by decide +kernel
theorem d_law_law_396 : decode code 396 = .ok (.aload_n 2, 1) := by decide +kernel
theorem d_law_law_397 : decode code 397 = .ok (.invokevirtual 62, 3) := by decide +kernel
theorem d_law_law_400 : decode code 400 = .ok (.if_icmp .eq 187, 3) := by decide +kernel
theorem d_law_law_403 : decode code 403 = .ok (.iconst 0, 1) := by decide +kernel
theorem d_law_law_404 : decode code 404 = .ok (.ireturn, 1) := by decide +kernel
theorem d_law_law_405 : decode code 405 = .ok (.aload_n 1, 1) := by decide +kernel
theorem d_law_law_406 : decode code 406 = .ok (.aload_n 0, 1) := by decide +kernel
theorem d_law_law_407 : decode code 407 = .ok (.iload_n 3, 1) := by decide +kernel
theorem d_law_law_408 : decode code 408 = .ok (.iconst 1, 1) := by decide +kernel
theorem d_law_law_409 : decode code 409 = .ok (.iadd, 1) := by decide +kernel
theorem d_law_law_410 : decode code 410 = .ok (.iaload, 1) := by decide +kernel
theorem d_law_law_411 : decode code 411 = .ok (.aload_n 0, 1) := by decide +kernel
theorem d_law_law_412 : decode code 412 = .ok (.iload_n 3, 1) := by decide +kernel
theorem d_law_law_413 : decode code 413 = .ok (.iconst 2, 1) := by decide +kernel
theorem d_law_law_414 : decode code 414 = .ok (.iadd, 1) := by decide +kernel
theorem d_law_law_415 : decode code 415 = .ok (.iaload, 1) := by decide +kernel
theorem d_law_law_416 : decode code 416 = .ok (.invokevirtual 63, 3) := by decide +kernel
theorem d_law_law_419 : decode code 419 = .ok (.aload_n 2, 1) := by decide +kernel
theorem d_law_law_420 : decode code 420 = .ok (.aload_n 0, 1) := by decide +kernel
theorem d_law_law_421 : decode code 421 = .ok (.iload_n 3, 1) := by decide +kernel
theorem d_law_law_422 : decode code 422 = .ok (.iconst 1, 1) := by decide +kernel
theorem d_law_law_423 : decode code 423 = .ok (.iadd, 1) := by decide +kernel
theorem d_law_law_424 : decode code 424 = .ok (.iaload, 1) := by decide +kernel
theorem d_law_law_425 : decode code 425 = .ok (.aload_n 0, 1) := by decide +kernel
theorem d_law_law_426 : decode code 426 = .ok (.iload_n 3, 1) := by decide +kernel
theorem d_law_law_427 : decode code 427 = .ok (.iconst 2, 1) := by decide +kernel
theorem d_law_law_428 : decode code 428 = .ok (.iadd, 1) := by decide +kernel
theorem d_law_law_429 : decode code 429 = .ok (.iaload, 1) := by decide +kernel
theorem d_law_law_430 : decode code 430 = .ok (.invokevirtual 66, 3) := by decide +kernel
theorem d_law_law_433 : decode code 433 = .ok (.if_icmp .eq 154, 3) := by decide +kernel
theorem d_law_law_436 : decode code 436 = .ok (.iconst 0, 1) := by decide +kernel
theorem d_law_law_437 : decode code 437 = .ok (.ireturn, 1) := by decide +kernel
theorem d_law_law_438 : decode code 438 = .ok (.aload_n 1, 1) := by decide +kernel
theorem d_law_law_439 : decode code 439 = .ok (.aload_n 0, 1) := by decide +kernel
theorem d_law_law_440 : decode code 440 = .ok (.iload_n 3, 1) := by decide +kernel
theorem d_law_law_441 : decode code 441 = .ok (.iconst 1, 1) := by decide +kernel
theorem d_law_law_442 : decode code 442 = .ok (.iadd, 1) := by decide +kernel
theorem d_law_law_443 : decode code 443 = .ok (.iaload, 1) := by decide +kernel
theorem d_law_law_444 : decode code 444 = .ok (.invokevirtual 67, 3) := by decide +kernel
theorem d_law_law_447 : decode code 447 = .ok (.aload_n 2, 1) := by decide +kernel
theorem d_law_law_448 : decode code 448 = .ok (.aload_n 0, 1) := by decide +kernel
theorem d_law_law_449 : decode code 449 = .ok (.iload_n 3, 1) := by decide +kernel
theorem d_law_law_450 : decode code 450 = .ok (.iconst 1, 1) := by decide +kernel
theorem d_law_law_451 : decode code 451 = .ok (.iadd, 1) := by decide +kernel
theorem d_law_law_452 : decode code 452 = .ok (.iaload, 1) := by decide +kernel
theorem d_law_law_453 : decode code 453 = .ok (.invokevirtual 70, 3) := by decide +kernel
theorem d_law_law_456 : decode code 456 = .ok (.if_icmp .eq 131, 3) := by decide +kernel
theorem d_law_law_459 : decode code 459 = .ok (.iconst 0, 1) := by decide +kernel
theorem d_law_law_460 : decode code 460 = .ok (.ireturn, 1) := by decide +kernel
theorem d_law_law_461 : decode code 461 = .ok (.aload_n 1, 1) := by decide +kernel
theorem d_law_law_462 : decode code 462 = .ok (.invokevirtual 71, 3) := by decide +kernel
theorem d_law_law_465 : decode code 465 = .ok (.aload_n 2, 1) := by decide +kernel
theorem d_law_law_466 : decode code 466 = .ok (.invokevirtual 74, 3) := by decide +kernel
