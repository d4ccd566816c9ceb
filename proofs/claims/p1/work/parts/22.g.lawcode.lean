theorem d_L_law_637 : decode b_L_law 637 = .ok (.ireturn, 1) := by decide +kernel
theorem d_L_law_638 : decode b_L_law 638 = .ok (.iload 5, 2) := by decide +kernel
theorem d_L_law_640 : decode b_L_law 640 = .ok (.ifCond .ne (15), 3) := by decide +kernel
theorem d_L_law_643 : decode b_L_law 643 = .ok (.aload_n 3, 1) := by decide +kernel
theorem d_L_law_644 : decode b_L_law 644 = .ok (.iconst 0, 1) := by decide +kernel
theorem d_L_law_645 : decode b_L_law 645 = .ok (.laload, 1) := by decide +kernel
theorem d_L_law_646 : decode b_L_law 646 = .ok (.iload 6, 2) := by decide +kernel
theorem d_L_law_648 : decode b_L_law 648 = .ok (.i2l, 1) := by decide +kernel
theorem d_L_law_649 : decode b_L_law 649 = .ok (.lcmp, 1) := by decide +kernel
theorem d_L_law_650 : decode b_L_law 650 = .ok (.ifCond .eq (5), 3) := by decide +kernel
theorem d_L_law_653 : decode b_L_law 653 = .ok (.iconst 0, 1) := by decide +kernel
theorem d_L_law_654 : decode b_L_law 654 = .ok (.ireturn, 1) := by decide +kernel
theorem d_L_law_655 : decode b_L_law 655 = .ok (.goto (520), 3) := by decide +kernel
theorem d_L_law_658 : decode b_L_law 658 = .ok (.aload_n 1, 1) := by decide +kernel
theorem d_L_law_659 : decode b_L_law 659 = .ok (.aload_n 0, 1) := by decide +kernel
theorem d_L_law_660 : decode b_L_law 660 = .ok (.iload 4, 2) := by decide +kernel
theorem d_L_law_662 : decode b_L_law 662 = .ok (.iconst 1, 1) := by decide +kernel
theorem d_L_law_663 : decode b_L_law 663 = .ok (.iadd, 1) := by decide +kernel
theorem d_L_law_664 : decode b_L_law 664 = .ok (.iaload, 1) := by decide +kernel
theorem d_L_law_665 : decode b_L_law 665 = .ok (.aload_n 0, 1) := by decide +kernel
theorem d_L_law_666 : decode b_L_law 666 = .ok (.iload 4, 2) := by decide +kernel
theorem d_L_law_668 : decode b_L_law 668 = .ok (.iconst 2, 1) := by decide +kernel
theorem d_L_law_669 : decode b_L_law 669 = .ok (.iadd, 1) := by decide +kernel
theorem d_L_law_670 : decode b_L_law 670 = .ok (.iaload, 1) := by decide +kernel
theorem d_L_law_671 : decode b_L_law 671 = .ok (.aload_n 3, 1) := by decide +kernel
theorem d_L_law_672 : decode b_L_law 672 = .ok (.invokestatic 109, 3) := by decide +kernel
theorem d_L_law_675 : decode b_L_law 675 = .ok (.istore 5, 2) := by decide +kernel
theorem d_L_law_677 : decode b_L_law 677 = .ok (.aload_n 2, 1) := by decide +kernel
theorem d_L_law_678 : decode b_L_law 678 = .ok (.aload_n 0, 1) := by decide +kernel
theorem d_L_law_679 : decode b_L_law 679 = .ok (.iload 4, 2) := by decide +kernel
theorem d_L_law_681 : decode b_L_law 681 = .ok (.iconst 1, 1) := by decide +kernel
theorem d_L_law_682 : decode b_L_law 682 = .ok (.iadd, 1) := by decide +kernel
theorem d_L_law_683 : decode b_L_law 683 = .ok (.iaload, 1) := by decide +kernel
theorem d_L_law_684 : decode b_L_law 684 = .ok (.aload_n 0, 1) := by decide +kernel
theorem d_L_law_685 : decode b_L_law 685 = .ok (.iload 4, 2) := by decide +kernel
theorem d_L_law_687 : decode b_L_law 687 = .ok (.iconst 2, 1) := by decide +kernel
theorem d_L_law_688 : decode b_L_law 688 = .ok (.iadd, 1) := by decide +kernel
theorem d_L_law_689 : decode b_L_law 689 = .ok (.iaload, 1) := by decide +kernel
theorem d_L_law_690 : decode b_L_law 690 = .ok (.invokevirtual 111, 3) := by decide +kernel
theorem d_L_law_693 : decode b_L_law 693 = .ok (.istore 6, 2) := by decide +kernel
theorem d_L_law_695 : decode b_L_law 695 = .ok (.aload_n 2, 1) := by decide +kernel
theorem d_L_law_696 : decode b_L_law 696 = .ok (.invokevirtual 82, 3) := by decide +kernel
theorem d_L_law_699 : decode b_L_law 699 = .ok (.iload 5, 2) := by decide +kernel
theorem d_L_law_701 : decode b_L_law 701 = .ok (.if_icmp .eq (5), 3) := by decide +kernel
theorem d_L_law_704 : decode b_L_law 704 = .ok (.iconst 0, 1) := by decide +kernel
theorem d_L_law_705 : decode b_L_law 705 = .ok (.ireturn, 1) := by decide +kernel
theorem d_L_law_706 : decode b_L_law 706 = .ok (.iload 5, 2) := by decide +kernel
theorem d_L_law_708 : decode b_L_law 708 = .ok (.ifCond .ne (15), 3) := by decide +kernel
theorem d_L_law_711 : decode b_L_law 711 = .ok (.aload_n 3, 1) := by decide +kernel
theorem d_L_law_712 : decode b_L_law 712 = .ok (.iconst 0, 1) := by decide +kernel
theorem d_L_law_713 : decode b_L_law 713 = .ok (.laload, 1) := by decide +kernel
theorem d_L_law_714 : decode b_L_law 714 = .ok (.iload 6, 2) := by decide +kernel
theorem d_L_law_716 : decode b_L_law 716 = .ok (.i2l, 1) := by decide +kernel
theorem d_L_law_717 : decode b_L_law 717 = .ok (.lcmp, 1) := by decide +kernel
theorem d_L_law_718 : decode b_L_law 718 = .ok (.ifCond .eq (5), 3) := by decide +kernel
theorem d_L_law_721 : decode b_L_law 721 = .ok (.iconst 0, 1) := by decide +kernel
theorem d_L_law_722 : decode b_L_law 722 = .ok (.ireturn, 1) := by decide +kernel
theorem d_L_law_723 : decode b_L_law 723 = .ok (.goto (452), 3) := by decide +kernel
theorem d_L_law_726 : decode b_L_law 726 = .ok (.aload_n 1, 1) := by decide +kernel
theorem d_L_law_727 : decode b_L_law 727 = .ok (.aload_n 0, 1) := by decide +kernel
