/-! The law's decode rows, 3 of 10. -/
theorem d_Law_law_394 : decode b_Law_law 394 = .ok (.iload 4, 2) := by decide +kernel
theorem d_Law_law_396 : decode b_Law_law 396 = .ok (.iconst 1, 1) := by decide +kernel
theorem d_Law_law_397 : decode b_Law_law 397 = .ok (.iadd, 1) := by decide +kernel
theorem d_Law_law_398 : decode b_Law_law 398 = .ok (.iaload, 1) := by decide +kernel
theorem d_Law_law_399 : decode b_Law_law 399 = .ok (.aload_n 0, 1) := by decide +kernel
theorem d_Law_law_400 : decode b_Law_law 400 = .ok (.iload 4, 2) := by decide +kernel
theorem d_Law_law_402 : decode b_Law_law 402 = .ok (.iconst 2, 1) := by decide +kernel
theorem d_Law_law_403 : decode b_Law_law 403 = .ok (.iadd, 1) := by decide +kernel
theorem d_Law_law_404 : decode b_Law_law 404 = .ok (.iaload, 1) := by decide +kernel
theorem d_Law_law_405 : decode b_Law_law 405 = .ok (.aload_n 0, 1) := by decide +kernel
theorem d_Law_law_406 : decode b_Law_law 406 = .ok (.iload 4, 2) := by decide +kernel
theorem d_Law_law_408 : decode b_Law_law 408 = .ok (.iconst 3, 1) := by decide +kernel
theorem d_Law_law_409 : decode b_Law_law 409 = .ok (.iadd, 1) := by decide +kernel
theorem d_Law_law_410 : decode b_Law_law 410 = .ok (.iaload, 1) := by decide +kernel
theorem d_Law_law_411 : decode b_Law_law 411 = .ok (.aload_n 3, 1) := by decide +kernel
theorem d_Law_law_412 : decode b_Law_law 412 = .ok (.invokestatic 108, 3) := by decide +kernel
theorem d_Law_law_415 : decode b_Law_law 415 = .ok (.istore 5, 2) := by decide +kernel
theorem d_Law_law_417 : decode b_Law_law 417 = .ok (.aload_n 2, 1) := by decide +kernel
theorem d_Law_law_418 : decode b_Law_law 418 = .ok (.aload_n 0, 1) := by decide +kernel
theorem d_Law_law_419 : decode b_Law_law 419 = .ok (.iload 4, 2) := by decide +kernel
theorem d_Law_law_421 : decode b_Law_law 421 = .ok (.iconst 1, 1) := by decide +kernel
theorem d_Law_law_422 : decode b_Law_law 422 = .ok (.iadd, 1) := by decide +kernel
theorem d_Law_law_423 : decode b_Law_law 423 = .ok (.iaload, 1) := by decide +kernel
theorem d_Law_law_424 : decode b_Law_law 424 = .ok (.aload_n 0, 1) := by decide +kernel
theorem d_Law_law_425 : decode b_Law_law 425 = .ok (.iload 4, 2) := by decide +kernel
theorem d_Law_law_427 : decode b_Law_law 427 = .ok (.iconst 2, 1) := by decide +kernel
theorem d_Law_law_428 : decode b_Law_law 428 = .ok (.iadd, 1) := by decide +kernel
theorem d_Law_law_429 : decode b_Law_law 429 = .ok (.iaload, 1) := by decide +kernel
theorem d_Law_law_430 : decode b_Law_law 430 = .ok (.aload_n 0, 1) := by decide +kernel
theorem d_Law_law_431 : decode b_Law_law 431 = .ok (.iload 4, 2) := by decide +kernel
theorem d_Law_law_433 : decode b_Law_law 433 = .ok (.iconst 3, 1) := by decide +kernel
theorem d_Law_law_434 : decode b_Law_law 434 = .ok (.iadd, 1) := by decide +kernel
theorem d_Law_law_435 : decode b_Law_law 435 = .ok (.iaload, 1) := by decide +kernel
theorem d_Law_law_436 : decode b_Law_law 436 = .ok (.invokevirtual 111, 3) := by decide +kernel
theorem d_Law_law_439 : decode b_Law_law 439 = .ok (.istore 6, 2) := by decide +kernel
theorem d_Law_law_441 : decode b_Law_law 441 = .ok (.aload_n 2, 1) := by decide +kernel
theorem d_Law_law_442 : decode b_Law_law 442 = .ok (.invokevirtual 97, 3) := by decide +kernel
theorem d_Law_law_445 : decode b_Law_law 445 = .ok (.iload 5, 2) := by decide +kernel
theorem d_Law_law_447 : decode b_Law_law 447 = .ok (.if_icmp .eq 5, 3) := by decide +kernel
theorem d_Law_law_452 : decode b_Law_law 452 = .ok (.iload 5, 2) := by decide +kernel
theorem d_Law_law_454 : decode b_Law_law 454 = .ok (.ifCond .ne 15, 3) := by decide +kernel
theorem d_Law_law_457 : decode b_Law_law 457 = .ok (.aload_n 3, 1) := by decide +kernel
theorem d_Law_law_458 : decode b_Law_law 458 = .ok (.iconst 0, 1) := by decide +kernel
theorem d_Law_law_459 : decode b_Law_law 459 = .ok (.laload, 1) := by decide +kernel
theorem d_Law_law_460 : decode b_Law_law 460 = .ok (.iload 6, 2) := by decide +kernel
theorem d_Law_law_462 : decode b_Law_law 462 = .ok (.i2l, 1) := by decide +kernel
theorem d_Law_law_463 : decode b_Law_law 463 = .ok (.lcmp, 1) := by decide +kernel
theorem d_Law_law_464 : decode b_Law_law 464 = .ok (.ifCond .eq 5, 3) := by decide +kernel
theorem d_Law_law_469 : decode b_Law_law 469 = .ok (.goto 1179, 3) := by decide +kernel
theorem d_Law_law_472 : decode b_Law_law 472 = .ok (.aload_n 1, 1) := by decide +kernel
theorem d_Law_law_473 : decode b_Law_law 473 = .ok (.aload_n 0, 1) := by decide +kernel
theorem d_Law_law_474 : decode b_Law_law 474 = .ok (.iload 4, 2) := by decide +kernel
theorem d_Law_law_476 : decode b_Law_law 476 = .ok (.iconst 1, 1) := by decide +kernel
theorem d_Law_law_477 : decode b_Law_law 477 = .ok (.iadd, 1) := by decide +kernel
theorem d_Law_law_478 : decode b_Law_law 478 = .ok (.iaload, 1) := by decide +kernel
theorem d_Law_law_479 : decode b_Law_law 479 = .ok (.aload_n 0, 1) := by decide +kernel
theorem d_Law_law_480 : decode b_Law_law 480 = .ok (.iload 4, 2) := by decide +kernel
theorem d_Law_law_482 : decode b_Law_law 482 = .ok (.iconst 2, 1) := by decide +kernel
theorem d_Law_law_483 : decode b_Law_law 483 = .ok (.iadd, 1) := by decide +kernel
theorem d_Law_law_484 : decode b_Law_law 484 = .ok (.iaload, 1) := by decide +kernel
theorem d_Law_law_485 : decode b_Law_law 485 = .ok (.aload_n 3, 1) := by decide +kernel
theorem d_Law_law_486 : decode b_Law_law 486 = .ok (.invokestatic 112, 3) := by decide +kernel
theorem d_Law_law_489 : decode b_Law_law 489 = .ok (.istore 5, 2) := by decide +kernel
theorem d_Law_law_491 : decode b_Law_law 491 = .ok (.aload_n 2, 1) := by decide +kernel
theorem d_Law_law_492 : decode b_Law_law 492 = .ok (.aload_n 0, 1) := by decide +kernel
theorem d_Law_law_493 : decode b_Law_law 493 = .ok (.iload 4, 2) := by decide +kernel
theorem d_Law_law_495 : decode b_Law_law 495 = .ok (.iconst 1, 1) := by decide +kernel
theorem d_Law_law_496 : decode b_Law_law 496 = .ok (.iadd, 1) := by decide +kernel
theorem d_Law_law_497 : decode b_Law_law 497 = .ok (.iaload, 1) := by decide +kernel
theorem d_Law_law_498 : decode b_Law_law 498 = .ok (.aload_n 0, 1) := by decide +kernel
theorem d_Law_law_499 : decode b_Law_law 499 = .ok (.iload 4, 2) := by decide +kernel
theorem d_Law_law_501 : decode b_Law_law 501 = .ok (.iconst 2, 1) := by decide +kernel
theorem d_Law_law_502 : decode b_Law_law 502 = .ok (.iadd, 1) := by decide +kernel
theorem d_Law_law_503 : decode b_Law_law 503 = .ok (.iaload, 1) := by decide +kernel
theorem d_Law_law_504 : decode b_Law_law 504 = .ok (.invokevirtual 114, 3) := by decide +kernel
theorem d_Law_law_507 : decode b_Law_law 507 = .ok (.istore 6, 2) := by decide +kernel
theorem d_Law_law_509 : decode b_Law_law 509 = .ok (.aload_n 2, 1) := by decide +kernel
theorem d_Law_law_510 : decode b_Law_law 510 = .ok (.invokevirtual 97, 3) := by decide +kernel
theorem d_Law_law_513 : decode b_Law_law 513 = .ok (.iload 5, 2) := by decide +kernel
theorem d_Law_law_515 : decode b_Law_law 515 = .ok (.if_icmp .eq 5, 3) := by decide +kernel
theorem d_Law_law_520 : decode b_Law_law 520 = .ok (.iload 5, 2) := by decide +kernel
theorem d_Law_law_522 : decode b_Law_law 522 = .ok (.ifCond .ne 15, 3) := by decide +kernel
theorem d_Law_law_525 : decode b_Law_law 525 = .ok (.aload_n 3, 1) := by decide +kernel
theorem d_Law_law_526 : decode b_Law_law 526 = .ok (.iconst 0, 1) := by decide +kernel
theorem d_Law_law_527 : decode b_Law_law 527 = .ok (.laload, 1) := by decide +kernel
theorem d_Law_law_528 : decode b_Law_law 528 = .ok (.iload 6, 2) := by decide +kernel
theorem d_Law_law_530 : decode b_Law_law 530 = .ok (.i2l, 1) := by decide +kernel
theorem d_Law_law_531 : decode b_Law_law 531 = .ok (.lcmp, 1) := by decide +kernel
theorem d_Law_law_532 : decode b_Law_law 532 = .ok (.ifCond .eq 5, 3) := by decide +kernel
theorem d_Law_law_537 : decode b_Law_law 537 = .ok (.goto 1111, 3) := by decide +kernel
theorem d_Law_law_540 : decode b_Law_law 540 = .ok (.aload_n 1, 1) := by decide +kernel
theorem d_Law_law_541 : decode b_Law_law 541 = .ok (.aload_n 0, 1) := by decide +kernel
theorem d_Law_law_542 : decode b_Law_law 542 = .ok (.iload 4, 2) := by decide +kernel
theorem d_Law_law_544 : decode b_Law_law 544 = .ok (.iconst 1, 1) := by decide +kernel
theorem d_Law_law_545 : decode b_Law_law 545 = .ok (.iadd, 1) := by decide +kernel
