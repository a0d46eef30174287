theorem d_law_law_456 : decode code 456 = .ok (.iconst 2, 1) := by decide +kernel
theorem d_law_law_457 : decode code 457 = .ok (.iadd, 1) := by decide +kernel
theorem d_law_law_458 : decode code 458 = .ok (.iaload, 1) := by decide +kernel
theorem d_law_law_459 : decode code 459 = .ok (.invokevirtual 62, 3) := by decide +kernel
theorem d_law_law_462 : decode code 462 = .ok (.aload_n 2, 1) := by decide +kernel
theorem d_law_law_463 : decode code 463 = .ok (.aload_n 0, 1) := by decide +kernel
theorem d_law_law_464 : decode code 464 = .ok (.iload_n 3, 1) := by decide +kernel
theorem d_law_law_465 : decode code 465 = .ok (.iconst 1, 1) := by decide +kernel
theorem d_law_law_466 : decode code 466 = .ok (.iadd, 1) := by decide +kernel
theorem d_law_law_467 : decode code 467 = .ok (.iaload, 1) := by decide +kernel
theorem d_law_law_468 : decode code 468 = .ok (.aload_n 0, 1) := by decide +kernel
theorem d_law_law_469 : decode code 469 = .ok (.iload_n 3, 1) := by decide +kernel
theorem d_law_law_470 : decode code 470 = .ok (.iconst 2, 1) := by decide +kernel
theorem d_law_law_471 : decode code 471 = .ok (.iadd, 1) := by decide +kernel
theorem d_law_law_472 : decode code 472 = .ok (.iaload, 1) := by decide +kernel
theorem d_law_law_473 : decode code 473 = .ok (.invokevirtual 65, 3) := by decide +kernel
theorem d_law_law_476 : decode code 476 = .ok (.if_icmp .eq 100, 3) := by decide +kernel
theorem d_law_law_479 : decode code 479 = .ok (.iconst 0, 1) := by decide +kernel
theorem d_law_law_480 : decode code 480 = .ok (.ireturn, 1) := by decide +kernel
theorem d_law_law_481 : decode code 481 = .ok (.aload_n 1, 1) := by decide +kernel
theorem d_law_law_482 : decode code 482 = .ok (.aload_n 0, 1) := by decide +kernel
theorem d_law_law_483 : decode code 483 = .ok (.iload_n 3, 1) := by decide +kernel
theorem d_law_law_484 : decode code 484 = .ok (.iconst 1, 1) := by decide +kernel
theorem d_law_law_485 : decode code 485 = .ok (.iadd, 1) := by decide +kernel
theorem d_law_law_486 : decode code 486 = .ok (.iaload, 1) := by decide +kernel
theorem d_law_law_487 : decode code 487 = .ok (.invokevirtual 66, 3) := by decide +kernel
theorem d_law_law_490 : decode code 490 = .ok (.aload_n 2, 1) := by decide +kernel
theorem d_law_law_491 : decode code 491 = .ok (.aload_n 0, 1) := by decide +kernel
theorem d_law_law_492 : decode code 492 = .ok (.iload_n 3, 1) := by decide +kernel
theorem d_law_law_493 : decode code 493 = .ok (.iconst 1, 1) := by decide +kernel
theorem d_law_law_494 : decode code 494 = .ok (.iadd, 1) := by decide +kernel
theorem d_law_law_495 : decode code 495 = .ok (.iaload, 1) := by decide +kernel
theorem d_law_law_496 : decode code 496 = .ok (.invokevirtual 70, 3) := by decide +kernel
theorem d_law_law_499 : decode code 499 = .ok (.if_icmp .eq 77, 3) := by decide +kernel
theorem d_law_law_502 : decode code 502 = .ok (.iconst 0, 1) := by decide +kernel
theorem d_law_law_503 : decode code 503 = .ok (.ireturn, 1) := by decide +kernel
theorem d_law_law_504 : decode code 504 = .ok (.aload_n 1, 1) := by decide +kernel
theorem d_law_law_505 : decode code 505 = .ok (.aload_n 0, 1) := by decide +kernel
theorem d_law_law_506 : decode code 506 = .ok (.iload_n 3, 1) := by decide +kernel
theorem d_law_law_507 : decode code 507 = .ok (.iconst 1, 1) := by decide +kernel
theorem d_law_law_508 : decode code 508 = .ok (.iadd, 1) := by decide +kernel
theorem d_law_law_509 : decode code 509 = .ok (.iaload, 1) := by decide +kernel
theorem d_law_law_510 : decode code 510 = .ok (.aload_n 0, 1) := by decide +kernel
theorem d_law_law_511 : decode code 511 = .ok (.iload_n 3, 1) := by decide +kernel
theorem d_law_law_512 : decode code 512 = .ok (.iconst 2, 1) := by decide +kernel
theorem d_law_law_513 : decode code 513 = .ok (.iadd, 1) := by decide +kernel
theorem d_law_law_514 : decode code 514 = .ok (.iaload, 1) := by decide +kernel
theorem d_law_law_515 : decode code 515 = .ok (.ifCond .eq 7, 3) := by decide +kernel
theorem d_law_law_518 : decode code 518 = .ok (.iconst 1, 1) := by decide +kernel
theorem d_law_law_519 : decode code 519 = .ok (.goto 4, 3) := by decide +kernel
theorem d_law_law_522 : decode code 522 = .ok (.iconst 0, 1) := by decide +kernel
theorem d_law_law_523 : decode code 523 = .ok (.invokevirtual 71, 3) := by decide +kernel
theorem d_law_law_526 : decode code 526 = .ok (.aload_n 2, 1) := by decide +kernel
theorem d_law_law_527 : decode code 527 = .ok (.aload_n 0, 1) := by decide +kernel
theorem d_law_law_528 : decode code 528 = .ok (.iload_n 3, 1) := by decide +kernel
theorem d_law_law_529 : decode code 529 = .ok (.iconst 1, 1) := by decide +kernel
theorem d_law_law_530 : decode code 530 = .ok (.iadd, 1) := by decide +kernel
theorem d_law_law_531 : decode code 531 = .ok (.iaload, 1) := by decide +kernel
theorem d_law_law_532 : decode code 532 = .ok (.aload_n 0, 1) := by decide +kernel
theorem d_law_law_533 : decode code 533 = .ok (.iload_n 3, 1) := by decide +kernel
theorem d_law_law_534 : decode code 534 = .ok (.iconst 2, 1) := by decide +kernel
theorem d_law_law_535 : decode code 535 = .ok (.iadd, 1) := by decide +kernel
theorem d_law_law_536 : decode code 536 = .ok (.iaload, 1) := by decide +kernel
theorem d_law_law_537 : decode code 537 = .ok (.ifCond .eq 7, 3) := by decide +kernel
theorem d_law_law_540 : decode code 540 = .ok (.iconst 1, 1) := by decide +kernel
theorem d_law_law_541 : decode code 541 = .ok (.goto 4, 3) := by decide +kernel
theorem d_law_law_544 : decode code 544 = .ok (.iconst 0, 1) := by decide +kernel
theorem d_law_law_545 : decode code 545 = .ok (.invokevirtual 75, 3) := by decide +kernel
theorem d_law_law_548 : decode code 548 = .ok (.if_icmp .eq 28, 3) := by decide +kernel
theorem d_law_law_551 : decode code 551 = .ok (.iconst 0, 1) := by decide +kernel
theorem d_law_law_552 : decode code 552 = .ok (.ireturn, 1) := by decide +kernel
theorem d_law_law_553 : decode code 553 = .ok (.aload_n 1, 1) := by decide +kernel
theorem d_law_law_554 : decode code 554 = .ok (.aload_n 0, 1) := by decide +kernel
theorem d_law_law_555 : decode code 555 = .ok (.iload_n 3, 1) := by decide +kernel
theorem d_law_law_556 : decode code 556 = .ok (.iconst 1, 1) := by decide +kernel
theorem d_law_law_557 : decode code 557 = .ok (.iadd, 1) := by decide +kernel
theorem d_law_law_558 : decode code 558 = .ok (.iaload, 1) := by decide +kernel
theorem d_law_law_559 : decode code 559 = .ok (.invokevirtual 76, 3) := by decide +kernel
theorem d_law_law_562 : decode code 562 = .ok (.aload_n 2, 1) := by decide +kernel
theorem d_law_law_563 : decode code 563 = .ok (.aload_n 0, 1) := by decide +kernel
theorem d_law_law_564 : decode code 564 = .ok (.iload_n 3, 1) := by decide +kernel
theorem d_law_law_565 : decode code 565 = .ok (.iconst 1, 1) := by decide +kernel
theorem d_law_law_566 : decode code 566 = .ok (.iadd, 1) := by decide +kernel
theorem d_law_law_567 : decode code 567 = .ok (.iaload, 1) := by decide +kernel
theorem d_law_law_568 : decode code 568 = .ok (.invokevirtual 79, 3) := by decide +kernel
theorem d_law_law_571 : decode code 571 = .ok (.if_icmp .eq 5, 3) := by decide +kernel
theorem d_law_law_574 : decode code 574 = .ok (.iconst 0, 1) := by decide +kernel
theorem d_law_law_575 : decode code 575 = .ok (.ireturn, 1) := by decide +kernel
theorem d_law_law_576 : decode code 576 = .ok (.iinc 3 6, 3) := by decide +kernel
theorem d_law_law_579 : decode code 579 = .ok (.goto (-561), 3) := by decide +kernel
theorem d_law_law_582 : decode code 582 = .ok (.iconst 1, 1) := by decide +kernel
theorem d_law_law_583 : decode code 583 = .ok (.ireturn, 1) := by decide +kernel
