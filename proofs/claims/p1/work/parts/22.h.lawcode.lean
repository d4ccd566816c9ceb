theorem d_L_law_728 : decode b_L_law 728 = .ok (.iload 4, 2) := by decide +kernel
theorem d_L_law_730 : decode b_L_law 730 = .ok (.iconst 1, 1) := by decide +kernel
theorem d_L_law_731 : decode b_L_law 731 = .ok (.iadd, 1) := by decide +kernel
theorem d_L_law_732 : decode b_L_law 732 = .ok (.iaload, 1) := by decide +kernel
theorem d_L_law_733 : decode b_L_law 733 = .ok (.aload_n 0, 1) := by decide +kernel
theorem d_L_law_734 : decode b_L_law 734 = .ok (.iload 4, 2) := by decide +kernel
theorem d_L_law_736 : decode b_L_law 736 = .ok (.iconst 2, 1) := by decide +kernel
theorem d_L_law_737 : decode b_L_law 737 = .ok (.iadd, 1) := by decide +kernel
theorem d_L_law_738 : decode b_L_law 738 = .ok (.iaload, 1) := by decide +kernel
theorem d_L_law_739 : decode b_L_law 739 = .ok (.aload_n 0, 1) := by decide +kernel
theorem d_L_law_740 : decode b_L_law 740 = .ok (.iload 4, 2) := by decide +kernel
theorem d_L_law_742 : decode b_L_law 742 = .ok (.iconst 3, 1) := by decide +kernel
theorem d_L_law_743 : decode b_L_law 743 = .ok (.iadd, 1) := by decide +kernel
theorem d_L_law_744 : decode b_L_law 744 = .ok (.iaload, 1) := by decide +kernel
theorem d_L_law_745 : decode b_L_law 745 = .ok (.aload_n 3, 1) := by decide +kernel
theorem d_L_law_746 : decode b_L_law 746 = .ok (.invokestatic 112, 3) := by decide +kernel
theorem d_L_law_749 : decode b_L_law 749 = .ok (.istore 5, 2) := by decide +kernel
theorem d_L_law_751 : decode b_L_law 751 = .ok (.aload_n 2, 1) := by decide +kernel
theorem d_L_law_752 : decode b_L_law 752 = .ok (.aload_n 0, 1) := by decide +kernel
theorem d_L_law_753 : decode b_L_law 753 = .ok (.iload 4, 2) := by decide +kernel
theorem d_L_law_755 : decode b_L_law 755 = .ok (.iconst 1, 1) := by decide +kernel
theorem d_L_law_756 : decode b_L_law 756 = .ok (.iadd, 1) := by decide +kernel
theorem d_L_law_757 : decode b_L_law 757 = .ok (.iaload, 1) := by decide +kernel
theorem d_L_law_758 : decode b_L_law 758 = .ok (.aload_n 0, 1) := by decide +kernel
theorem d_L_law_759 : decode b_L_law 759 = .ok (.iload 4, 2) := by decide +kernel
theorem d_L_law_761 : decode b_L_law 761 = .ok (.iconst 2, 1) := by decide +kernel
theorem d_L_law_762 : decode b_L_law 762 = .ok (.iadd, 1) := by decide +kernel
theorem d_L_law_763 : decode b_L_law 763 = .ok (.iaload, 1) := by decide +kernel
theorem d_L_law_764 : decode b_L_law 764 = .ok (.aload_n 0, 1) := by decide +kernel
theorem d_L_law_765 : decode b_L_law 765 = .ok (.iload 4, 2) := by decide +kernel
theorem d_L_law_767 : decode b_L_law 767 = .ok (.iconst 3, 1) := by decide +kernel
theorem d_L_law_768 : decode b_L_law 768 = .ok (.iadd, 1) := by decide +kernel
theorem d_L_law_769 : decode b_L_law 769 = .ok (.iaload, 1) := by decide +kernel
theorem d_L_law_770 : decode b_L_law 770 = .ok (.invokevirtual 115, 3) := by decide +kernel
theorem d_L_law_773 : decode b_L_law 773 = .ok (.istore 6, 2) := by decide +kernel
theorem d_L_law_775 : decode b_L_law 775 = .ok (.aload_n 2, 1) := by decide +kernel
theorem d_L_law_776 : decode b_L_law 776 = .ok (.invokevirtual 82, 3) := by decide +kernel
theorem d_L_law_779 : decode b_L_law 779 = .ok (.iload 5, 2) := by decide +kernel
theorem d_L_law_781 : decode b_L_law 781 = .ok (.if_icmp .eq (5), 3) := by decide +kernel
theorem d_L_law_784 : decode b_L_law 784 = .ok (.iconst 0, 1) := by decide +kernel
theorem d_L_law_785 : decode b_L_law 785 = .ok (.ireturn, 1) := by decide +kernel
theorem d_L_law_786 : decode b_L_law 786 = .ok (.iload 5, 2) := by decide +kernel
theorem d_L_law_788 : decode b_L_law 788 = .ok (.ifCond .ne (15), 3) := by decide +kernel
theorem d_L_law_791 : decode b_L_law 791 = .ok (.aload_n 3, 1) := by decide +kernel
theorem d_L_law_792 : decode b_L_law 792 = .ok (.iconst 0, 1) := by decide +kernel
theorem d_L_law_793 : decode b_L_law 793 = .ok (.laload, 1) := by decide +kernel
theorem d_L_law_794 : decode b_L_law 794 = .ok (.iload 6, 2) := by decide +kernel
theorem d_L_law_796 : decode b_L_law 796 = .ok (.i2l, 1) := by decide +kernel
theorem d_L_law_797 : decode b_L_law 797 = .ok (.lcmp, 1) := by decide +kernel
theorem d_L_law_798 : decode b_L_law 798 = .ok (.ifCond .eq (5), 3) := by decide +kernel
theorem d_L_law_801 : decode b_L_law 801 = .ok (.iconst 0, 1) := by decide +kernel
theorem d_L_law_802 : decode b_L_law 802 = .ok (.ireturn, 1) := by decide +kernel
theorem d_L_law_803 : decode b_L_law 803 = .ok (.goto (372), 3) := by decide +kernel
theorem d_L_law_806 : decode b_L_law 806 = .ok (.aload_n 1, 1) := by decide +kernel
theorem d_L_law_807 : decode b_L_law 807 = .ok (.aload_n 0, 1) := by decide +kernel
theorem d_L_law_808 : decode b_L_law 808 = .ok (.iload 4, 2) := by decide +kernel
theorem d_L_law_810 : decode b_L_law 810 = .ok (.iconst 1, 1) := by decide +kernel
theorem d_L_law_811 : decode b_L_law 811 = .ok (.iadd, 1) := by decide +kernel
theorem d_L_law_812 : decode b_L_law 812 = .ok (.iaload, 1) := by decide +kernel
theorem d_L_law_813 : decode b_L_law 813 = .ok (.aload_n 0, 1) := by decide +kernel
