/-! decode rows of the law -/
theorem dL_law_402 : decode mL.2.1 402 = .ok (.aload_n 0, 1) := by decide +kernel
theorem dL_law_403 : decode mL.2.1 403 = .ok (.iload_n 3, 1) := by decide +kernel
theorem dL_law_404 : decode mL.2.1 404 = .ok (.iconst 2, 1) := by decide +kernel
theorem dL_law_405 : decode mL.2.1 405 = .ok (.iadd, 1) := by decide +kernel
theorem dL_law_406 : decode mL.2.1 406 = .ok (.iaload, 1) := by decide +kernel
theorem dL_law_407 : decode mL.2.1 407 = .ok (.invokevirtual 34, 3) := by decide +kernel
theorem dL_law_410 : decode mL.2.1 410 = .ok (.if_icmp .eq 1085, 3) := by decide +kernel
theorem dL_law_415 : decode mL.2.1 415 = .ok (.aload_n 1, 1) := by decide +kernel
theorem dL_law_416 : decode mL.2.1 416 = .ok (.invokevirtual 35, 3) := by decide +kernel
theorem dL_law_419 : decode mL.2.1 419 = .ok (.aload_n 2, 1) := by decide +kernel
theorem dL_law_420 : decode mL.2.1 420 = .ok (.invokevirtual 39, 3) := by decide +kernel
theorem dL_law_423 : decode mL.2.1 423 = .ok (.if_icmp .eq 1072, 3) := by decide +kernel
theorem dL_law_428 : decode mL.2.1 428 = .ok (.aload_n 1, 1) := by decide +kernel
theorem dL_law_429 : decode mL.2.1 429 = .ok (.invokevirtual 40, 3) := by decide +kernel
theorem dL_law_432 : decode mL.2.1 432 = .ok (.aload_n 2, 1) := by decide +kernel
theorem dL_law_433 : decode mL.2.1 433 = .ok (.invokevirtual 43, 3) := by decide +kernel
theorem dL_law_436 : decode mL.2.1 436 = .ok (.if_icmp .eq 1059, 3) := by decide +kernel
theorem dL_law_441 : decode mL.2.1 441 = .ok (.aload_n 1, 1) := by decide +kernel
theorem dL_law_442 : decode mL.2.1 442 = .ok (.invokevirtual 44, 3) := by decide +kernel
theorem dL_law_445 : decode mL.2.1 445 = .ok (.aload_n 2, 1) := by decide +kernel
theorem dL_law_446 : decode mL.2.1 446 = .ok (.invokevirtual 47, 3) := by decide +kernel
theorem dL_law_449 : decode mL.2.1 449 = .ok (.if_icmp .eq 1046, 3) := by decide +kernel
theorem dL_law_454 : decode mL.2.1 454 = .ok (.aload_n 1, 1) := by decide +kernel
theorem dL_law_455 : decode mL.2.1 455 = .ok (.invokevirtual 48, 3) := by decide +kernel
theorem dL_law_458 : decode mL.2.1 458 = .ok (.aload_n 2, 1) := by decide +kernel
theorem dL_law_459 : decode mL.2.1 459 = .ok (.invokevirtual 51, 3) := by decide +kernel
theorem dL_law_462 : decode mL.2.1 462 = .ok (.if_icmp .eq 1033, 3) := by decide +kernel
theorem dL_law_467 : decode mL.2.1 467 = .ok (.aload_n 1, 1) := by decide +kernel
theorem dL_law_468 : decode mL.2.1 468 = .ok (.aload_n 0, 1) := by decide +kernel
theorem dL_law_469 : decode mL.2.1 469 = .ok (.iload_n 3, 1) := by decide +kernel
theorem dL_law_470 : decode mL.2.1 470 = .ok (.iconst 1, 1) := by decide +kernel
theorem dL_law_471 : decode mL.2.1 471 = .ok (.iadd, 1) := by decide +kernel
theorem dL_law_472 : decode mL.2.1 472 = .ok (.iaload, 1) := by decide +kernel
theorem dL_law_473 : decode mL.2.1 473 = .ok (.invokevirtual 52, 3) := by decide +kernel
theorem dL_law_476 : decode mL.2.1 476 = .ok (.aload_n 2, 1) := by decide +kernel
theorem dL_law_477 : decode mL.2.1 477 = .ok (.aload_n 0, 1) := by decide +kernel
theorem dL_law_478 : decode mL.2.1 478 = .ok (.iload_n 3, 1) := by decide +kernel
theorem dL_law_479 : decode mL.2.1 479 = .ok (.iconst 1, 1) := by decide +kernel
theorem dL_law_480 : decode mL.2.1 480 = .ok (.iadd, 1) := by decide +kernel
theorem dL_law_481 : decode mL.2.1 481 = .ok (.iaload, 1) := by decide +kernel
theorem dL_law_482 : decode mL.2.1 482 = .ok (.invokevirtual 56, 3) := by decide +kernel
theorem dL_law_485 : decode mL.2.1 485 = .ok (.if_icmp .eq 1010, 3) := by decide +kernel
theorem dL_law_490 : decode mL.2.1 490 = .ok (.aload_n 1, 1) := by decide +kernel
theorem dL_law_491 : decode mL.2.1 491 = .ok (.aload_n 0, 1) := by decide +kernel
theorem dL_law_492 : decode mL.2.1 492 = .ok (.iload_n 3, 1) := by decide +kernel
theorem dL_law_493 : decode mL.2.1 493 = .ok (.iconst 1, 1) := by decide +kernel
theorem dL_law_494 : decode mL.2.1 494 = .ok (.iadd, 1) := by decide +kernel
theorem dL_law_495 : decode mL.2.1 495 = .ok (.iaload, 1) := by decide +kernel
theorem dL_law_496 : decode mL.2.1 496 = .ok (.invokevirtual 57, 3) := by decide +kernel
theorem dL_law_499 : decode mL.2.1 499 = .ok (.aload_n 2, 1) := by decide +kernel
theorem dL_law_500 : decode mL.2.1 500 = .ok (.aload_n 0, 1) := by decide +kernel
theorem dL_law_501 : decode mL.2.1 501 = .ok (.iload_n 3, 1) := by decide +kernel
theorem dL_law_502 : decode mL.2.1 502 = .ok (.iconst 1, 1) := by decide +kernel
theorem dL_law_503 : decode mL.2.1 503 = .ok (.iadd, 1) := by decide +kernel
theorem dL_law_504 : decode mL.2.1 504 = .ok (.iaload, 1) := by decide +kernel
theorem dL_law_505 : decode mL.2.1 505 = .ok (.invokevirtual 60, 3) := by decide +kernel
theorem dL_law_508 : decode mL.2.1 508 = .ok (.if_icmp .eq 987, 3) := by decide +kernel
theorem dL_law_513 : decode mL.2.1 513 = .ok (.aload_n 1, 1) := by decide +kernel
theorem dL_law_514 : decode mL.2.1 514 = .ok (.aload_n 0, 1) := by decide +kernel
theorem dL_law_515 : decode mL.2.1 515 = .ok (.iload_n 3, 1) := by decide +kernel
theorem dL_law_516 : decode mL.2.1 516 = .ok (.iconst 1, 1) := by decide +kernel
theorem dL_law_517 : decode mL.2.1 517 = .ok (.iadd, 1) := by decide +kernel
theorem dL_law_518 : decode mL.2.1 518 = .ok (.iaload, 1) := by decide +kernel
theorem dL_law_519 : decode mL.2.1 519 = .ok (.invokevirtual 61, 3) := by decide +kernel
theorem dL_law_522 : decode mL.2.1 522 = .ok (.aload_n 2, 1) := by decide +kernel
theorem dL_law_523 : decode mL.2.1 523 = .ok (.aload_n 0, 1) := by decide +kernel
theorem dL_law_524 : decode mL.2.1 524 = .ok (.iload_n 3, 1) := by decide +kernel
theorem dL_law_525 : decode mL.2.1 525 = .ok (.iconst 1, 1) := by decide +kernel
theorem dL_law_526 : decode mL.2.1 526 = .ok (.iadd, 1) := by decide +kernel
theorem dL_law_527 : decode mL.2.1 527 = .ok (.iaload, 1) := by decide +kernel
theorem dL_law_528 : decode mL.2.1 528 = .ok (.invokevirtual 64, 3) := by decide +kernel
theorem dL_law_531 : decode mL.2.1 531 = .ok (.if_icmp .eq 964, 3) := by decide +kernel
theorem dL_law_536 : decode mL.2.1 536 = .ok (.aload_n 1, 1) := by decide +kernel
theorem dL_law_537 : decode mL.2.1 537 = .ok (.aload_n 0, 1) := by decide +kernel
theorem dL_law_538 : decode mL.2.1 538 = .ok (.iload_n 3, 1) := by decide +kernel
