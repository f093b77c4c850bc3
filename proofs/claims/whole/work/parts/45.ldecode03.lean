theorem de_W_law_392 : decode bc_W_law 392 = .ok (.aload_n 0, 1) := by decide +kernel
theorem de_W_law_393 : decode bc_W_law 393 = .ok (.iload_n 3, 1) := by decide +kernel
theorem de_W_law_394 : decode bc_W_law 394 = .ok (.iconst 1, 1) := by decide +kernel
theorem de_W_law_395 : decode bc_W_law 395 = .ok (.iadd, 1) := by decide +kernel
theorem de_W_law_396 : decode bc_W_law 396 = .ok (.iaload, 1) := by decide +kernel
theorem de_W_law_397 : decode bc_W_law 397 = .ok (.invokevirtual 46, 3) := by decide +kernel
theorem de_W_law_400 : decode bc_W_law 400 = .ok (.if_icmp .eq 328, 3) := by decide +kernel
theorem de_W_law_403 : decode bc_W_law 403 = .ok (.iconst 0, 1) := by decide +kernel
theorem de_W_law_404 : decode bc_W_law 404 = .ok (.ireturn, 1) := by decide +kernel
theorem de_W_law_405 : decode bc_W_law 405 = .ok (.aload_n 1, 1) := by decide +kernel
theorem de_W_law_406 : decode bc_W_law 406 = .ok (.aload_n 0, 1) := by decide +kernel
theorem de_W_law_407 : decode bc_W_law 407 = .ok (.iload_n 3, 1) := by decide +kernel
theorem de_W_law_408 : decode bc_W_law 408 = .ok (.iconst 1, 1) := by decide +kernel
theorem de_W_law_409 : decode bc_W_law 409 = .ok (.iadd, 1) := by decide +kernel
theorem de_W_law_410 : decode bc_W_law 410 = .ok (.iaload, 1) := by decide +kernel
theorem de_W_law_411 : decode bc_W_law 411 = .ok (.aload_n 0, 1) := by decide +kernel
theorem de_W_law_412 : decode bc_W_law 412 = .ok (.iload_n 3, 1) := by decide +kernel
theorem de_W_law_413 : decode bc_W_law 413 = .ok (.iconst 2, 1) := by decide +kernel
theorem de_W_law_414 : decode bc_W_law 414 = .ok (.iadd, 1) := by decide +kernel
theorem de_W_law_415 : decode bc_W_law 415 = .ok (.iaload, 1) := by decide +kernel
theorem de_W_law_416 : decode bc_W_law 416 = .ok (.i2l, 1) := by decide +kernel
theorem de_W_law_417 : decode bc_W_law 417 = .ok (.bipush 32, 2) := by decide +kernel
theorem de_W_law_419 : decode bc_W_law 419 = .ok (.lshl, 1) := by decide +kernel
theorem de_W_law_420 : decode bc_W_law 420 = .ok (.aload_n 0, 1) := by decide +kernel
theorem de_W_law_421 : decode bc_W_law 421 = .ok (.iload_n 3, 1) := by decide +kernel
theorem de_W_law_422 : decode bc_W_law 422 = .ok (.iconst 3, 1) := by decide +kernel
theorem de_W_law_423 : decode bc_W_law 423 = .ok (.iadd, 1) := by decide +kernel
theorem de_W_law_424 : decode bc_W_law 424 = .ok (.iaload, 1) := by decide +kernel
theorem de_W_law_425 : decode bc_W_law 425 = .ok (.i2l, 1) := by decide +kernel
theorem de_W_law_426 : decode bc_W_law 426 = .ok (.ldc2_w 47, 3) := by decide +kernel
theorem de_W_law_429 : decode bc_W_law 429 = .ok (.land, 1) := by decide +kernel
theorem de_W_law_430 : decode bc_W_law 430 = .ok (.lor, 1) := by decide +kernel
theorem de_W_law_431 : decode bc_W_law 431 = .ok (.invokevirtual 49, 3) := by decide +kernel
theorem de_W_law_434 : decode bc_W_law 434 = .ok (.aload_n 2, 1) := by decide +kernel
theorem de_W_law_435 : decode bc_W_law 435 = .ok (.aload_n 0, 1) := by decide +kernel
theorem de_W_law_436 : decode bc_W_law 436 = .ok (.iload_n 3, 1) := by decide +kernel
theorem de_W_law_437 : decode bc_W_law 437 = .ok (.iconst 1, 1) := by decide +kernel
theorem de_W_law_438 : decode bc_W_law 438 = .ok (.iadd, 1) := by decide +kernel
theorem de_W_law_439 : decode bc_W_law 439 = .ok (.iaload, 1) := by decide +kernel
theorem de_W_law_440 : decode bc_W_law 440 = .ok (.aload_n 0, 1) := by decide +kernel
theorem de_W_law_441 : decode bc_W_law 441 = .ok (.iload_n 3, 1) := by decide +kernel
theorem de_W_law_442 : decode bc_W_law 442 = .ok (.iconst 2, 1) := by decide +kernel
theorem de_W_law_443 : decode bc_W_law 443 = .ok (.iadd, 1) := by decide +kernel
theorem de_W_law_444 : decode bc_W_law 444 = .ok (.iaload, 1) := by decide +kernel
theorem de_W_law_445 : decode bc_W_law 445 = .ok (.i2l, 1) := by decide +kernel
theorem de_W_law_446 : decode bc_W_law 446 = .ok (.bipush 32, 2) := by decide +kernel
theorem de_W_law_448 : decode bc_W_law 448 = .ok (.lshl, 1) := by decide +kernel
theorem de_W_law_449 : decode bc_W_law 449 = .ok (.aload_n 0, 1) := by decide +kernel
theorem de_W_law_450 : decode bc_W_law 450 = .ok (.iload_n 3, 1) := by decide +kernel
theorem de_W_law_451 : decode bc_W_law 451 = .ok (.iconst 3, 1) := by decide +kernel
theorem de_W_law_452 : decode bc_W_law 452 = .ok (.iadd, 1) := by decide +kernel
theorem de_W_law_453 : decode bc_W_law 453 = .ok (.iaload, 1) := by decide +kernel
theorem de_W_law_454 : decode bc_W_law 454 = .ok (.i2l, 1) := by decide +kernel
theorem de_W_law_455 : decode bc_W_law 455 = .ok (.ldc2_w 47, 3) := by decide +kernel
theorem de_W_law_458 : decode bc_W_law 458 = .ok (.land, 1) := by decide +kernel
theorem de_W_law_459 : decode bc_W_law 459 = .ok (.lor, 1) := by decide +kernel
theorem de_W_law_460 : decode bc_W_law 460 = .ok (.invokevirtual 53, 3) := by decide +kernel
theorem de_W_law_463 : decode bc_W_law 463 = .ok (.if_icmp .eq 265, 3) := by decide +kernel
theorem de_W_law_466 : decode bc_W_law 466 = .ok (.iconst 0, 1) := by decide +kernel
theorem de_W_law_467 : decode bc_W_law 467 = .ok (.ireturn, 1) := by decide +kernel
theorem de_W_law_468 : decode bc_W_law 468 = .ok (.aload_n 1, 1) := by decide +kernel
theorem de_W_law_469 : decode bc_W_law 469 = .ok (.invokevirtual 54, 3) := by decide +kernel
theorem de_W_law_472 : decode bc_W_law 472 = .ok (.aload_n 2, 1) := by decide +kernel
theorem de_W_law_473 : decode bc_W_law 473 = .ok (.invokevirtual 58, 3) := by decide +kernel
theorem de_W_law_476 : decode bc_W_law 476 = .ok (.lcmp, 1) := by decide +kernel
theorem de_W_law_477 : decode bc_W_law 477 = .ok (.ifCond .eq 251, 3) := by decide +kernel
theorem de_W_law_480 : decode bc_W_law 480 = .ok (.iconst 0, 1) := by decide +kernel
theorem de_W_law_481 : decode bc_W_law 481 = .ok (.ireturn, 1) := by decide +kernel
theorem de_W_law_482 : decode bc_W_law 482 = .ok (.aload_n 1, 1) := by decide +kernel
theorem de_W_law_483 : decode bc_W_law 483 = .ok (.invokevirtual 59, 3) := by decide +kernel
theorem de_W_law_486 : decode bc_W_law 486 = .ok (.aload_n 2, 1) := by decide +kernel
theorem de_W_law_487 : decode bc_W_law 487 = .ok (.invokevirtual 62, 3) := by decide +kernel
theorem de_W_law_490 : decode bc_W_law 490 = .ok (.lcmp, 1) := by decide +kernel
theorem de_W_law_491 : decode bc_W_law 491 = .ok (.ifCond .eq 237, 3) := by decide +kernel
theorem de_W_law_494 : decode bc_W_law 494 = .ok (.iconst 0, 1) := by decide +kernel
theorem de_W_law_495 : decode bc_W_law 495 = .ok (.ireturn, 1) := by decide +kernel
theorem de_W_law_496 : decode bc_W_law 496 = .ok (.aload_n 1, 1) := by decide +kernel
theorem de_W_law_497 : decode bc_W_law 497 = .ok (.aload_n 0, 1) := by decide +kernel
theorem de_W_law_498 : decode bc_W_law 498 = .ok (.iload_n 3, 1) := by decide +kernel
theorem de_W_law_499 : decode bc_W_law 499 = .ok (.iconst 1, 1) := by decide +kernel
