theorem dX10_init_359 : decode cX10_init 359 = .ok (.aload_n 0, 1) := by decide +kernel
theorem dX10_init_360 : decode cX10_init 360 = .ok (.iconst 0, 1) := by decide +kernel
theorem dX10_init_361 : decode cX10_init 361 = .ok (.putfield 147, 3) := by decide +kernel
theorem dX10_init_364 : decode cX10_init 364 = .ok (.aload_n 0, 1) := by decide +kernel
theorem dX10_init_365 : decode cX10_init 365 = .ok (.bipush 8, 2) := by decide +kernel
theorem dX10_init_367 : decode cX10_init 367 = .ok (.newarray .int, 2) := by decide +kernel
theorem dX10_init_369 : decode cX10_init 369 = .ok (.putfield 150, 3) := by decide +kernel
theorem dX10_init_372 : decode cX10_init 372 = .ok (.aload_n 0, 1) := by decide +kernel
theorem dX10_init_373 : decode cX10_init 373 = .ok (.bipush 8, 2) := by decide +kernel
theorem dX10_init_375 : decode cX10_init 375 = .ok (.newarray .int, 2) := by decide +kernel
theorem dX10_init_377 : decode cX10_init 377 = .ok (.putfield 153, 3) := by decide +kernel
theorem dX10_init_380 : decode cX10_init 380 = .ok (.aload_n 0, 1) := by decide +kernel
theorem dX10_init_381 : decode cX10_init 381 = .ok (.bipush 8, 2) := by decide +kernel
theorem dX10_init_383 : decode cX10_init 383 = .ok (.newarray .int, 2) := by decide +kernel
theorem dX10_init_385 : decode cX10_init 385 = .ok (.putfield 156, 3) := by decide +kernel
theorem dX10_init_388 : decode cX10_init 388 = .ok (.aload_n 0, 1) := by decide +kernel
theorem dX10_init_389 : decode cX10_init 389 = .ok (.bipush 8, 2) := by decide +kernel
theorem dX10_init_391 : decode cX10_init 391 = .ok (.newarray .int, 2) := by decide +kernel
theorem dX10_init_393 : decode cX10_init 393 = .ok (.putfield 159, 3) := by decide +kernel
theorem dX10_init_396 : decode cX10_init 396 = .ok (.aload_n 0, 1) := by decide +kernel
theorem dX10_init_397 : decode cX10_init 397 = .ok (.sipush 192, 3) := by decide +kernel
theorem dX10_init_400 : decode cX10_init 400 = .ok (.newarray .int, 2) := by decide +kernel
theorem dX10_init_402 : decode cX10_init 402 = .ok (.putfield 162, 3) := by decide +kernel
theorem dX10_init_405 : decode cX10_init 405 = .ok (.aload_n 0, 1) := by decide +kernel
theorem dX10_init_406 : decode cX10_init 406 = .ok (.bipush 8, 2) := by decide +kernel
theorem dX10_init_408 : decode cX10_init 408 = .ok (.newarray .boolean, 2) := by decide +kernel
theorem dX10_init_410 : decode cX10_init 410 = .ok (.putfield 165, 3) := by decide +kernel
theorem dX10_init_413 : decode cX10_init 413 = .ok (.aload_n 0, 1) := by decide +kernel
theorem dX10_init_414 : decode cX10_init 414 = .ok (.iconst 0, 1) := by decide +kernel
theorem dX10_init_415 : decode cX10_init 415 = .ok (.putfield 168, 3) := by decide +kernel
theorem dX10_init_418 : decode cX10_init 418 = .ok (.aload_n 0, 1) := by decide +kernel
theorem dX10_init_419 : decode cX10_init 419 = .ok (.iconst 0, 1) := by decide +kernel
theorem dX10_init_420 : decode cX10_init 420 = .ok (.putfield 172, 3) := by decide +kernel
theorem dX10_init_423 : decode cX10_init 423 = .ok (.aload_n 0, 1) := by decide +kernel
theorem dX10_init_424 : decode cX10_init 424 = .ok (.iconst 0, 1) := by decide +kernel
theorem dX10_init_425 : decode cX10_init 425 = .ok (.putfield 175, 3) := by decide +kernel
theorem dX10_init_428 : decode cX10_init 428 = .ok (.aload_n 0, 1) := by decide +kernel
theorem dX10_init_429 : decode cX10_init 429 = .ok (.iconst 4, 1) := by decide +kernel
theorem dX10_init_430 : decode cX10_init 430 = .ok (.newarray .int, 2) := by decide +kernel
theorem dX10_init_432 : decode cX10_init 432 = .ok (.dup, 1) := by decide +kernel
theorem dX10_init_433 : decode cX10_init 433 = .ok (.iconst 0, 1) := by decide +kernel
theorem dX10_init_434 : decode cX10_init 434 = .ok (.iconst (-1), 1) := by decide +kernel
theorem dX10_init_435 : decode cX10_init 435 = .ok (.iastore, 1) := by decide +kernel
theorem dX10_init_436 : decode cX10_init 436 = .ok (.dup, 1) := by decide +kernel
theorem dX10_init_437 : decode cX10_init 437 = .ok (.iconst 1, 1) := by decide +kernel
theorem dX10_init_438 : decode cX10_init 438 = .ok (.iconst (-1), 1) := by decide +kernel
theorem dX10_init_439 : decode cX10_init 439 = .ok (.iastore, 1) := by decide +kernel
theorem dX10_init_440 : decode cX10_init 440 = .ok (.dup, 1) := by decide +kernel
theorem dX10_init_441 : decode cX10_init 441 = .ok (.iconst 2, 1) := by decide +kernel
theorem dX10_init_442 : decode cX10_init 442 = .ok (.iconst (-1), 1) := by decide +kernel
theorem dX10_init_443 : decode cX10_init 443 = .ok (.iastore, 1) := by decide +kernel
theorem dX10_init_444 : decode cX10_init 444 = .ok (.dup, 1) := by decide +kernel
theorem dX10_init_445 : decode cX10_init 445 = .ok (.iconst 3, 1) := by decide +kernel
theorem dX10_init_446 : decode cX10_init 446 = .ok (.iconst (-1), 1) := by decide +kernel
theorem dX10_init_447 : decode cX10_init 447 = .ok (.iastore, 1) := by decide +kernel
theorem dX10_init_448 : decode cX10_init 448 = .ok (.putfield 178, 3) := by decide +kernel
theorem dX10_init_451 : decode cX10_init 451 = .ok (.aload_n 0, 1) := by decide +kernel
theorem dX10_init_452 : decode cX10_init 452 = .ok (.iconst 4, 1) := by decide +kernel
theorem dX10_init_453 : decode cX10_init 453 = .ok (.newarray .int, 2) := by decide +kernel
theorem dX10_init_455 : decode cX10_init 455 = .ok (.putfield 181, 3) := by decide +kernel
theorem dX10_init_458 : decode cX10_init 458 = .ok (.aload_n 0, 1) := by decide +kernel
theorem dX10_init_459 : decode cX10_init 459 = .ok (.sipush 160, 3) := by decide +kernel
theorem dX10_init_462 : decode cX10_init 462 = .ok (.newarray .int, 2) := by decide +kernel
theorem dX10_init_464 : decode cX10_init 464 = .ok (.putfield 184, 3) := by decide +kernel
theorem dX10_init_467 : decode cX10_init 467 = .ok (.aload_n 0, 1) := by decide +kernel
theorem dX10_init_468 : decode cX10_init 468 = .ok (.bipush 40, 2) := by decide +kernel
theorem dX10_init_470 : decode cX10_init 470 = .ok (.newarray .int, 2) := by decide +kernel
theorem dX10_init_472 : decode cX10_init 472 = .ok (.putfield 187, 3) := by decide +kernel
theorem dX10_init_475 : decode cX10_init 475 = .ok (.return_, 1) := by decide +kernel
