theorem dLAW_422 : decode code 422 = .ok (.iload 6, 2) := by decide +kernel
theorem dLAW_424 : decode code 424 = .ok (.i2l, 1) := by decide +kernel
theorem dLAW_425 : decode code 425 = .ok (.lcmp, 1) := by decide +kernel
theorem dLAW_426 : decode code 426 = .ok (.ifCond .eq 5, 3) := by decide +kernel
theorem dLAW_429 : decode code 429 = .ok (.iconst 0, 1) := by decide +kernel
theorem dLAW_430 : decode code 430 = .ok (.ireturn, 1) := by decide +kernel
theorem dLAW_431 : decode code 431 = .ok (.goto 630, 3) := by decide +kernel
theorem dLAW_434 : decode code 434 = .ok (.aload_n 1, 1) := by decide +kernel
theorem dLAW_435 : decode code 435 = .ok (.aload_n 3, 1) := by decide +kernel
theorem dLAW_436 : decode code 436 = .ok (.invokestatic 92, 3) := by decide +kernel
theorem dLAW_439 : decode code 439 = .ok (.istore 5, 2) := by decide +kernel
theorem dLAW_441 : decode code 441 = .ok (.aload_n 2, 1) := by decide +kernel
theorem dLAW_442 : decode code 442 = .ok (.invokevirtual 94, 3) := by decide +kernel
theorem dLAW_445 : decode code 445 = .ok (.istore 6, 2) := by decide +kernel
theorem dLAW_447 : decode code 447 = .ok (.aload_n 2, 1) := by decide +kernel
theorem dLAW_448 : decode code 448 = .ok (.invokevirtual 69, 3) := by decide +kernel
theorem dLAW_451 : decode code 451 = .ok (.iload 5, 2) := by decide +kernel
theorem dLAW_453 : decode code 453 = .ok (.if_icmp .eq 5, 3) := by decide +kernel
theorem dLAW_456 : decode code 456 = .ok (.iconst 0, 1) := by decide +kernel
theorem dLAW_457 : decode code 457 = .ok (.ireturn, 1) := by decide +kernel
theorem dLAW_458 : decode code 458 = .ok (.iload 5, 2) := by decide +kernel
theorem dLAW_460 : decode code 460 = .ok (.ifCond .ne 15, 3) := by decide +kernel
theorem dLAW_463 : decode code 463 = .ok (.aload_n 3, 1) := by decide +kernel
theorem dLAW_464 : decode code 464 = .ok (.iconst 0, 1) := by decide +kernel
theorem dLAW_465 : decode code 465 = .ok (.laload, 1) := by decide +kernel
theorem dLAW_466 : decode code 466 = .ok (.iload 6, 2) := by decide +kernel
theorem dLAW_468 : decode code 468 = .ok (.i2l, 1) := by decide +kernel
theorem dLAW_469 : decode code 469 = .ok (.lcmp, 1) := by decide +kernel
theorem dLAW_470 : decode code 470 = .ok (.ifCond .eq 5, 3) := by decide +kernel
theorem dLAW_473 : decode code 473 = .ok (.iconst 0, 1) := by decide +kernel
theorem dLAW_474 : decode code 474 = .ok (.ireturn, 1) := by decide +kernel
theorem dLAW_475 : decode code 475 = .ok (.goto 586, 3) := by decide +kernel
theorem dLAW_478 : decode code 478 = .ok (.aload_n 1, 1) := by decide +kernel
theorem dLAW_479 : decode code 479 = .ok (.aload_n 0, 1) := by decide +kernel
theorem dLAW_480 : decode code 480 = .ok (.iload 4, 2) := by decide +kernel
theorem dLAW_482 : decode code 482 = .ok (.iconst 1, 1) := by decide +kernel
theorem dLAW_483 : decode code 483 = .ok (.iadd, 1) := by decide +kernel
theorem dLAW_484 : decode code 484 = .ok (.iaload, 1) := by decide +kernel
theorem dLAW_485 : decode code 485 = .ok (.aload_n 0, 1) := by decide +kernel
theorem dLAW_486 : decode code 486 = .ok (.iload 4, 2) := by decide +kernel
theorem dLAW_488 : decode code 488 = .ok (.iconst 2, 1) := by decide +kernel
theorem dLAW_489 : decode code 489 = .ok (.iadd, 1) := by decide +kernel
theorem dLAW_490 : decode code 490 = .ok (.iaload, 1) := by decide +kernel
theorem dLAW_491 : decode code 491 = .ok (.aload_n 3, 1) := by decide +kernel
theorem dLAW_492 : decode code 492 = .ok (.invokestatic 95, 3) := by decide +kernel
theorem dLAW_495 : decode code 495 = .ok (.istore 5, 2) := by decide +kernel
theorem dLAW_497 : decode code 497 = .ok (.aload_n 2, 1) := by decide +kernel
theorem dLAW_498 : decode code 498 = .ok (.aload_n 0, 1) := by decide +kernel
theorem dLAW_499 : decode code 499 = .ok (.iload 4, 2) := by decide +kernel
theorem dLAW_501 : decode code 501 = .ok (.iconst 1, 1) := by decide +kernel
theorem dLAW_502 : decode code 502 = .ok (.iadd, 1) := by decide +kernel
theorem dLAW_503 : decode code 503 = .ok (.iaload, 1) := by decide +kernel
theorem dLAW_504 : decode code 504 = .ok (.aload_n 0, 1) := by decide +kernel
theorem dLAW_505 : decode code 505 = .ok (.iload 4, 2) := by decide +kernel
theorem dLAW_507 : decode code 507 = .ok (.iconst 2, 1) := by decide +kernel
theorem dLAW_508 : decode code 508 = .ok (.iadd, 1) := by decide +kernel
theorem dLAW_509 : decode code 509 = .ok (.iaload, 1) := by decide +kernel
theorem dLAW_510 : decode code 510 = .ok (.invokevirtual 98, 3) := by decide +kernel
theorem dLAW_513 : decode code 513 = .ok (.istore 6, 2) := by decide +kernel
theorem dLAW_515 : decode code 515 = .ok (.aload_n 2, 1) := by decide +kernel
theorem dLAW_516 : decode code 516 = .ok (.invokevirtual 69, 3) := by decide +kernel
theorem dLAW_519 : decode code 519 = .ok (.iload 5, 2) := by decide +kernel
theorem dLAW_521 : decode code 521 = .ok (.if_icmp .eq 5, 3) := by decide +kernel
theorem dLAW_524 : decode code 524 = .ok (.iconst 0, 1) := by decide +kernel
theorem dLAW_525 : decode code 525 = .ok (.ireturn, 1) := by decide +kernel
theorem dLAW_526 : decode code 526 = .ok (.iload 5, 2) := by decide +kernel
theorem dLAW_528 : decode code 528 = .ok (.ifCond .ne 22, 3) := by decide +kernel
theorem dLAW_531 : decode code 531 = .ok (.aload_n 3, 1) := by decide +kernel
theorem dLAW_532 : decode code 532 = .ok (.iconst 0, 1) := by decide +kernel
theorem dLAW_533 : decode code 533 = .ok (.laload, 1) := by decide +kernel
theorem dLAW_534 : decode code 534 = .ok (.iload 6, 2) := by decide +kernel
theorem dLAW_536 : decode code 536 = .ok (.ifCond .eq 7, 3) := by decide +kernel
theorem dLAW_539 : decode code 539 = .ok (.lconst 1, 1) := by decide +kernel
theorem dLAW_540 : decode code 540 = .ok (.goto 4, 3) := by decide +kernel
theorem dLAW_543 : decode code 543 = .ok (.lconst 0, 1) := by decide +kernel
theorem dLAW_544 : decode code 544 = .ok (.lcmp, 1) := by decide +kernel
theorem dLAW_545 : decode code 545 = .ok (.ifCond .eq 5, 3) := by decide +kernel
theorem dLAW_548 : decode code 548 = .ok (.iconst 0, 1) := by decide +kernel
theorem dLAW_549 : decode code 549 = .ok (.ireturn, 1) := by decide +kernel
theorem dLAW_550 : decode code 550 = .ok (.goto 511, 3) := by decide +kernel
theorem dLAW_553 : decode code 553 = .ok (.aload_n 1, 1) := by decide +kernel
theorem dLAW_554 : decode code 554 = .ok (.aload_n 0, 1) := by decide +kernel
theorem dLAW_555 : decode code 555 = .ok (.iload 4, 2) := by decide +kernel
theorem dLAW_557 : decode code 557 = .ok (.iconst 1, 1) := by decide +kernel
theorem dLAW_558 : decode code 558 = .ok (.iadd, 1) := by decide +kernel
theorem dLAW_559 : decode code 559 = .ok (.iaload, 1) := by decide +kernel
theorem dLAW_560 : decode code 560 = .ok (.aload_n 0, 1) := by decide +kernel
theorem dLAW_561 : decode code 561 = .ok (.iload 4, 2) := by decide +kernel
theorem dLAW_563 : decode code 563 = .ok (.iconst 2, 1) := by decide +kernel
theorem dLAW_564 : decode code 564 = .ok (.iadd, 1) := by decide +kernel
theorem dLAW_565 : decode code 565 = .ok (.iaload, 1) := by decide +kernel
theorem dLAW_566 : decode code 566 = .ok (.aload_n 3, 1) := by decide +kernel
theorem dLAW_567 : decode code 567 = .ok (.invokestatic 99, 3) := by decide +kernel
theorem dLAW_570 : decode code 570 = .ok (.istore 5, 2) := by decide +kernel
theorem dLAW_572 : decode code 572 = .ok (.aload_n 2, 1) := by decide +kernel
theorem dLAW_573 : decode code 573 = .ok (.aload_n 0, 1) := by decide +kernel
theorem dLAW_574 : decode code 574 = .ok (.iload 4, 2) := by decide +kernel
theorem dLAW_576 : decode code 576 = .ok (.iconst 1, 1) := by decide +kernel
theorem dLAW_577 : decode code 577 = .ok (.iadd, 1) := by decide +kernel
theorem dLAW_578 : decode code 578 = .ok (.iaload, 1) := by decide +kernel
theorem dLAW_579 : decode code 579 = .ok (.aload_n 0, 1) := by decide +kernel
theorem dLAW_580 : decode code 580 = .ok (.iload 4, 2) := by decide +kernel
theorem dLAW_582 : decode code 582 = .ok (.iconst 2, 1) := by decide +kernel
theorem dLAW_583 : decode code 583 = .ok (.iadd, 1) := by decide +kernel
theorem dLAW_584 : decode code 584 = .ok (.iaload, 1) := by decide +kernel
theorem dLAW_585 : decode code 585 = .ok (.invokevirtual 101, 3) := by decide +kernel
theorem dLAW_588 : decode code 588 = .ok (.istore 6, 2) := by decide +kernel
theorem dLAW_590 : decode code 590 = .ok (.aload_n 2, 1) := by decide +kernel
theorem dLAW_591 : decode code 591 = .ok (.invokevirtual 69, 3) := by decide +kernel
theorem dLAW_594 : decode code 594 = .ok (.iload 5, 2) := by decide +kernel
