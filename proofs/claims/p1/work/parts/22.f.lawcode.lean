theorem d_L_law_544 : decode b_L_law 544 = .ok (.iload 4, 2) := by decide +kernel
theorem d_L_law_546 : decode b_L_law 546 = .ok (.iconst 1, 1) := by decide +kernel
theorem d_L_law_547 : decode b_L_law 547 = .ok (.iadd, 1) := by decide +kernel
theorem d_L_law_548 : decode b_L_law 548 = .ok (.iaload, 1) := by decide +kernel
theorem d_L_law_549 : decode b_L_law 549 = .ok (.aload_n 0, 1) := by decide +kernel
theorem d_L_law_550 : decode b_L_law 550 = .ok (.iload 4, 2) := by decide +kernel
theorem d_L_law_552 : decode b_L_law 552 = .ok (.iconst 2, 1) := by decide +kernel
theorem d_L_law_553 : decode b_L_law 553 = .ok (.iadd, 1) := by decide +kernel
theorem d_L_law_554 : decode b_L_law 554 = .ok (.iaload, 1) := by decide +kernel
theorem d_L_law_555 : decode b_L_law 555 = .ok (.invokevirtual 105, 3) := by decide +kernel
theorem d_L_law_558 : decode b_L_law 558 = .ok (.lstore 6, 2) := by decide +kernel
theorem d_L_law_560 : decode b_L_law 560 = .ok (.aload_n 2, 1) := by decide +kernel
theorem d_L_law_561 : decode b_L_law 561 = .ok (.invokevirtual 82, 3) := by decide +kernel
theorem d_L_law_564 : decode b_L_law 564 = .ok (.iload 5, 2) := by decide +kernel
theorem d_L_law_566 : decode b_L_law 566 = .ok (.if_icmp .eq (5), 3) := by decide +kernel
theorem d_L_law_569 : decode b_L_law 569 = .ok (.iconst 0, 1) := by decide +kernel
theorem d_L_law_570 : decode b_L_law 570 = .ok (.ireturn, 1) := by decide +kernel
theorem d_L_law_571 : decode b_L_law 571 = .ok (.iload 5, 2) := by decide +kernel
theorem d_L_law_573 : decode b_L_law 573 = .ok (.ifCond .ne (14), 3) := by decide +kernel
theorem d_L_law_576 : decode b_L_law 576 = .ok (.aload_n 3, 1) := by decide +kernel
theorem d_L_law_577 : decode b_L_law 577 = .ok (.iconst 0, 1) := by decide +kernel
theorem d_L_law_578 : decode b_L_law 578 = .ok (.laload, 1) := by decide +kernel
theorem d_L_law_579 : decode b_L_law 579 = .ok (.lload 6, 2) := by decide +kernel
theorem d_L_law_581 : decode b_L_law 581 = .ok (.lcmp, 1) := by decide +kernel
theorem d_L_law_582 : decode b_L_law 582 = .ok (.ifCond .eq (5), 3) := by decide +kernel
theorem d_L_law_585 : decode b_L_law 585 = .ok (.iconst 0, 1) := by decide +kernel
theorem d_L_law_586 : decode b_L_law 586 = .ok (.ireturn, 1) := by decide +kernel
theorem d_L_law_587 : decode b_L_law 587 = .ok (.goto (588), 3) := by decide +kernel
theorem d_L_law_590 : decode b_L_law 590 = .ok (.aload_n 1, 1) := by decide +kernel
theorem d_L_law_591 : decode b_L_law 591 = .ok (.aload_n 0, 1) := by decide +kernel
theorem d_L_law_592 : decode b_L_law 592 = .ok (.iload 4, 2) := by decide +kernel
theorem d_L_law_594 : decode b_L_law 594 = .ok (.iconst 1, 1) := by decide +kernel
theorem d_L_law_595 : decode b_L_law 595 = .ok (.iadd, 1) := by decide +kernel
theorem d_L_law_596 : decode b_L_law 596 = .ok (.iaload, 1) := by decide +kernel
theorem d_L_law_597 : decode b_L_law 597 = .ok (.aload_n 0, 1) := by decide +kernel
theorem d_L_law_598 : decode b_L_law 598 = .ok (.iload 4, 2) := by decide +kernel
theorem d_L_law_600 : decode b_L_law 600 = .ok (.iconst 2, 1) := by decide +kernel
theorem d_L_law_601 : decode b_L_law 601 = .ok (.iadd, 1) := by decide +kernel
theorem d_L_law_602 : decode b_L_law 602 = .ok (.iaload, 1) := by decide +kernel
theorem d_L_law_603 : decode b_L_law 603 = .ok (.aload_n 3, 1) := by decide +kernel
theorem d_L_law_604 : decode b_L_law 604 = .ok (.invokestatic 106, 3) := by decide +kernel
theorem d_L_law_607 : decode b_L_law 607 = .ok (.istore 5, 2) := by decide +kernel
theorem d_L_law_609 : decode b_L_law 609 = .ok (.aload_n 2, 1) := by decide +kernel
theorem d_L_law_610 : decode b_L_law 610 = .ok (.aload_n 0, 1) := by decide +kernel
theorem d_L_law_611 : decode b_L_law 611 = .ok (.iload 4, 2) := by decide +kernel
theorem d_L_law_613 : decode b_L_law 613 = .ok (.iconst 1, 1) := by decide +kernel
theorem d_L_law_614 : decode b_L_law 614 = .ok (.iadd, 1) := by decide +kernel
theorem d_L_law_615 : decode b_L_law 615 = .ok (.iaload, 1) := by decide +kernel
theorem d_L_law_616 : decode b_L_law 616 = .ok (.aload_n 0, 1) := by decide +kernel
theorem d_L_law_617 : decode b_L_law 617 = .ok (.iload 4, 2) := by decide +kernel
theorem d_L_law_619 : decode b_L_law 619 = .ok (.iconst 2, 1) := by decide +kernel
theorem d_L_law_620 : decode b_L_law 620 = .ok (.iadd, 1) := by decide +kernel
theorem d_L_law_621 : decode b_L_law 621 = .ok (.iaload, 1) := by decide +kernel
theorem d_L_law_622 : decode b_L_law 622 = .ok (.invokevirtual 108, 3) := by decide +kernel
theorem d_L_law_625 : decode b_L_law 625 = .ok (.istore 6, 2) := by decide +kernel
theorem d_L_law_627 : decode b_L_law 627 = .ok (.aload_n 2, 1) := by decide +kernel
theorem d_L_law_628 : decode b_L_law 628 = .ok (.invokevirtual 82, 3) := by decide +kernel
theorem d_L_law_631 : decode b_L_law 631 = .ok (.iload 5, 2) := by decide +kernel
theorem d_L_law_633 : decode b_L_law 633 = .ok (.if_icmp .eq (5), 3) := by decide +kernel
theorem d_L_law_636 : decode b_L_law 636 = .ok (.iconst 0, 1) := by decide +kernel
