theorem d_L_law_437 : decode b_L_law 437 = .ok (.aload_n 0, 1) := by decide +kernel
theorem d_L_law_438 : decode b_L_law 438 = .ok (.iload 4, 2) := by decide +kernel
theorem d_L_law_440 : decode b_L_law 440 = .ok (.iconst 1, 1) := by decide +kernel
theorem d_L_law_441 : decode b_L_law 441 = .ok (.iadd, 1) := by decide +kernel
theorem d_L_law_442 : decode b_L_law 442 = .ok (.iaload, 1) := by decide +kernel
theorem d_L_law_443 : decode b_L_law 443 = .ok (.aload_n 0, 1) := by decide +kernel
theorem d_L_law_444 : decode b_L_law 444 = .ok (.iload 4, 2) := by decide +kernel
theorem d_L_law_446 : decode b_L_law 446 = .ok (.iconst 2, 1) := by decide +kernel
theorem d_L_law_447 : decode b_L_law 447 = .ok (.iadd, 1) := by decide +kernel
theorem d_L_law_448 : decode b_L_law 448 = .ok (.iaload, 1) := by decide +kernel
theorem d_L_law_449 : decode b_L_law 449 = .ok (.aload_n 3, 1) := by decide +kernel
theorem d_L_law_450 : decode b_L_law 450 = .ok (.invokestatic 106, 3) := by decide +kernel
theorem d_L_law_453 : decode b_L_law 453 = .ok (.istore 5, 2) := by decide +kernel
theorem d_L_law_455 : decode b_L_law 455 = .ok (.aload_n 2, 1) := by decide +kernel
theorem d_L_law_456 : decode b_L_law 456 = .ok (.aload_n 0, 1) := by decide +kernel
theorem d_L_law_457 : decode b_L_law 457 = .ok (.iload 4, 2) := by decide +kernel
theorem d_L_law_459 : decode b_L_law 459 = .ok (.iconst 1, 1) := by decide +kernel
theorem d_L_law_460 : decode b_L_law 460 = .ok (.iadd, 1) := by decide +kernel
theorem d_L_law_461 : decode b_L_law 461 = .ok (.iaload, 1) := by decide +kernel
theorem d_L_law_462 : decode b_L_law 462 = .ok (.aload_n 0, 1) := by decide +kernel
theorem d_L_law_463 : decode b_L_law 463 = .ok (.iload 4, 2) := by decide +kernel
theorem d_L_law_465 : decode b_L_law 465 = .ok (.iconst 2, 1) := by decide +kernel
theorem d_L_law_466 : decode b_L_law 466 = .ok (.iadd, 1) := by decide +kernel
theorem d_L_law_467 : decode b_L_law 467 = .ok (.iaload, 1) := by decide +kernel
theorem d_L_law_468 : decode b_L_law 468 = .ok (.invokevirtual 108, 3) := by decide +kernel
theorem d_L_law_471 : decode b_L_law 471 = .ok (.istore 6, 2) := by decide +kernel
theorem d_L_law_473 : decode b_L_law 473 = .ok (.goto (335), 3) := by decide +kernel
theorem d_L_law_476 : decode b_L_law 476 = .ok (.aload_n 1, 1) := by decide +kernel
theorem d_L_law_477 : decode b_L_law 477 = .ok (.aload_n 0, 1) := by decide +kernel
theorem d_L_law_478 : decode b_L_law 478 = .ok (.iload 4, 2) := by decide +kernel
theorem d_L_law_480 : decode b_L_law 480 = .ok (.iconst 1, 1) := by decide +kernel
theorem d_L_law_481 : decode b_L_law 481 = .ok (.iadd, 1) := by decide +kernel
theorem d_L_law_482 : decode b_L_law 482 = .ok (.iaload, 1) := by decide +kernel
theorem d_L_law_483 : decode b_L_law 483 = .ok (.aload_n 0, 1) := by decide +kernel
theorem d_L_law_484 : decode b_L_law 484 = .ok (.iload 4, 2) := by decide +kernel
theorem d_L_law_486 : decode b_L_law 486 = .ok (.iconst 2, 1) := by decide +kernel
theorem d_L_law_487 : decode b_L_law 487 = .ok (.iadd, 1) := by decide +kernel
theorem d_L_law_488 : decode b_L_law 488 = .ok (.iaload, 1) := by decide +kernel
theorem d_L_law_489 : decode b_L_law 489 = .ok (.aload_n 0, 1) := by decide +kernel
theorem d_L_law_490 : decode b_L_law 490 = .ok (.iload 4, 2) := by decide +kernel
theorem d_L_law_492 : decode b_L_law 492 = .ok (.iconst 3, 1) := by decide +kernel
theorem d_L_law_493 : decode b_L_law 493 = .ok (.iadd, 1) := by decide +kernel
theorem d_L_law_494 : decode b_L_law 494 = .ok (.iaload, 1) := by decide +kernel
theorem d_L_law_495 : decode b_L_law 495 = .ok (.aload_n 3, 1) := by decide +kernel
theorem d_L_law_496 : decode b_L_law 496 = .ok (.invokestatic 109, 3) := by decide +kernel
theorem d_L_law_499 : decode b_L_law 499 = .ok (.istore 5, 2) := by decide +kernel
theorem d_L_law_501 : decode b_L_law 501 = .ok (.aload_n 2, 1) := by decide +kernel
theorem d_L_law_502 : decode b_L_law 502 = .ok (.aload_n 0, 1) := by decide +kernel
theorem d_L_law_503 : decode b_L_law 503 = .ok (.iload 4, 2) := by decide +kernel
theorem d_L_law_505 : decode b_L_law 505 = .ok (.iconst 1, 1) := by decide +kernel
theorem d_L_law_506 : decode b_L_law 506 = .ok (.iadd, 1) := by decide +kernel
theorem d_L_law_507 : decode b_L_law 507 = .ok (.iaload, 1) := by decide +kernel
theorem d_L_law_508 : decode b_L_law 508 = .ok (.aload_n 0, 1) := by decide +kernel
theorem d_L_law_509 : decode b_L_law 509 = .ok (.iload 4, 2) := by decide +kernel
theorem d_L_law_511 : decode b_L_law 511 = .ok (.iconst 2, 1) := by decide +kernel
theorem d_L_law_512 : decode b_L_law 512 = .ok (.iadd, 1) := by decide +kernel
theorem d_L_law_513 : decode b_L_law 513 = .ok (.iaload, 1) := by decide +kernel
theorem d_L_law_514 : decode b_L_law 514 = .ok (.aload_n 0, 1) := by decide +kernel
theorem d_L_law_515 : decode b_L_law 515 = .ok (.iload 4, 2) := by decide +kernel
theorem d_L_law_517 : decode b_L_law 517 = .ok (.iconst 3, 1) := by decide +kernel
theorem d_L_law_518 : decode b_L_law 518 = .ok (.iadd, 1) := by decide +kernel
theorem d_L_law_519 : decode b_L_law 519 = .ok (.iaload, 1) := by decide +kernel
theorem d_L_law_520 : decode b_L_law 520 = .ok (.invokevirtual 112, 3) := by decide +kernel
theorem d_L_law_523 : decode b_L_law 523 = .ok (.istore 6, 2) := by decide +kernel
theorem d_L_law_525 : decode b_L_law 525 = .ok (.goto (283), 3) := by decide +kernel
theorem d_L_law_528 : decode b_L_law 528 = .ok (.aload_n 1, 1) := by decide +kernel
theorem d_L_law_529 : decode b_L_law 529 = .ok (.aload_n 0, 1) := by decide +kernel
theorem d_L_law_530 : decode b_L_law 530 = .ok (.iload 4, 2) := by decide +kernel
theorem d_L_law_532 : decode b_L_law 532 = .ok (.iconst 1, 1) := by decide +kernel
theorem d_L_law_533 : decode b_L_law 533 = .ok (.iadd, 1) := by decide +kernel
theorem d_L_law_534 : decode b_L_law 534 = .ok (.iaload, 1) := by decide +kernel
theorem d_L_law_535 : decode b_L_law 535 = .ok (.aload_n 0, 1) := by decide +kernel
theorem d_L_law_536 : decode b_L_law 536 = .ok (.iload 4, 2) := by decide +kernel
theorem d_L_law_538 : decode b_L_law 538 = .ok (.iconst 2, 1) := by decide +kernel
theorem d_L_law_539 : decode b_L_law 539 = .ok (.iadd, 1) := by decide +kernel
theorem d_L_law_540 : decode b_L_law 540 = .ok (.iaload, 1) := by decide +kernel
theorem d_L_law_541 : decode b_L_law 541 = .ok (.ifCond .eq (7), 3) := by decide +kernel
theorem d_L_law_544 : decode b_L_law 544 = .ok (.iconst 1, 1) := by decide +kernel
theorem d_L_law_545 : decode b_L_law 545 = .ok (.goto (4), 3) := by decide +kernel
theorem d_L_law_548 : decode b_L_law 548 = .ok (.iconst 0, 1) := by decide +kernel
theorem d_L_law_549 : decode b_L_law 549 = .ok (.invokestatic 113, 3) := by decide +kernel
theorem d_L_law_552 : decode b_L_law 552 = .ok (.istore 5, 2) := by decide +kernel
theorem d_L_law_554 : decode b_L_law 554 = .ok (.aload_n 2, 1) := by decide +kernel
theorem d_L_law_555 : decode b_L_law 555 = .ok (.aload_n 0, 1) := by decide +kernel
theorem d_L_law_556 : decode b_L_law 556 = .ok (.iload 4, 2) := by decide +kernel
theorem d_L_law_558 : decode b_L_law 558 = .ok (.iconst 1, 1) := by decide +kernel
theorem d_L_law_559 : decode b_L_law 559 = .ok (.iadd, 1) := by decide +kernel
theorem d_L_law_560 : decode b_L_law 560 = .ok (.iaload, 1) := by decide +kernel
theorem d_L_law_561 : decode b_L_law 561 = .ok (.aload_n 0, 1) := by decide +kernel
theorem d_L_law_562 : decode b_L_law 562 = .ok (.iload 4, 2) := by decide +kernel
theorem d_L_law_564 : decode b_L_law 564 = .ok (.iconst 2, 1) := by decide +kernel
theorem d_L_law_565 : decode b_L_law 565 = .ok (.iadd, 1) := by decide +kernel
theorem d_L_law_566 : decode b_L_law 566 = .ok (.iaload, 1) := by decide +kernel
theorem d_L_law_567 : decode b_L_law 567 = .ok (.ifCond .eq (7), 3) := by decide +kernel
theorem d_L_law_570 : decode b_L_law 570 = .ok (.iconst 1, 1) := by decide +kernel
theorem d_L_law_571 : decode b_L_law 571 = .ok (.goto (4), 3) := by decide +kernel
theorem d_L_law_574 : decode b_L_law 574 = .ok (.iconst 0, 1) := by decide +kernel
theorem d_L_law_575 : decode b_L_law 575 = .ok (.invokevirtual 116, 3) := by decide +kernel
theorem d_L_law_578 : decode b_L_law 578 = .ok (.goto (230), 3) := by decide +kernel
theorem d_L_law_581 : decode b_L_law 581 = .ok (.aload_n 1, 1) := by decide +kernel
theorem d_L_law_582 : decode b_L_law 582 = .ok (.aload_n 0, 1) := by decide +kernel
theorem d_L_law_583 : decode b_L_law 583 = .ok (.iload 4, 2) := by decide +kernel
theorem d_L_law_585 : decode b_L_law 585 = .ok (.iconst 1, 1) := by decide +kernel
theorem d_L_law_586 : decode b_L_law 586 = .ok (.iadd, 1) := by decide +kernel
theorem d_L_law_587 : decode b_L_law 587 = .ok (.iaload, 1) := by decide +kernel
theorem d_L_law_588 : decode b_L_law 588 = .ok (.invokestatic 117, 3) := by decide +kernel
theorem d_L_law_591 : decode b_L_law 591 = .ok (.istore 5, 2) := by decide +kernel
theorem d_L_law_593 : decode b_L_law 593 = .ok (.aload_n 2, 1) := by decide +kernel
theorem d_L_law_594 : decode b_L_law 594 = .ok (.aload_n 0, 1) := by decide +kernel
theorem d_L_law_595 : decode b_L_law 595 = .ok (.iload 4, 2) := by decide +kernel
theorem d_L_law_597 : decode b_L_law 597 = .ok (.iconst 1, 1) := by decide +kernel
theorem d_L_law_598 : decode b_L_law 598 = .ok (.iadd, 1) := by decide +kernel
theorem d_L_law_599 : decode b_L_law 599 = .ok (.iaload, 1) := by decide +kernel
theorem d_L_law_600 : decode b_L_law 600 = .ok (.invokevirtual 120, 3) := by decide +kernel
theorem d_L_law_603 : decode b_L_law 603 = .ok (.goto (205), 3) := by decide +kernel
theorem d_L_law_606 : decode b_L_law 606 = .ok (.aload_n 1, 1) := by decide +kernel
theorem d_L_law_607 : decode b_L_law 607 = .ok (.invokevirtual 121, 3) := by decide +kernel
theorem d_L_law_610 : decode b_L_law 610 = .ok (.aload_n 2, 1) := by decide +kernel
theorem d_L_law_611 : decode b_L_law 611 = .ok (.invokevirtual 124, 3) := by decide +kernel
theorem d_L_law_614 : decode b_L_law 614 = .ok (.goto (194), 3) := by decide +kernel
