theorem d_L_law_814 : decode b_L_law 814 = .ok (.iload 4, 2) := by decide +kernel
theorem d_L_law_816 : decode b_L_law 816 = .ok (.iconst 2, 1) := by decide +kernel
theorem d_L_law_817 : decode b_L_law 817 = .ok (.iadd, 1) := by decide +kernel
theorem d_L_law_818 : decode b_L_law 818 = .ok (.iaload, 1) := by decide +kernel
theorem d_L_law_819 : decode b_L_law 819 = .ok (.ifCond .eq (7), 3) := by decide +kernel
theorem d_L_law_822 : decode b_L_law 822 = .ok (.iconst 1, 1) := by decide +kernel
theorem d_L_law_823 : decode b_L_law 823 = .ok (.goto (4), 3) := by decide +kernel
theorem d_L_law_826 : decode b_L_law 826 = .ok (.iconst 0, 1) := by decide +kernel
theorem d_L_law_827 : decode b_L_law 827 = .ok (.invokestatic 116, 3) := by decide +kernel
theorem d_L_law_830 : decode b_L_law 830 = .ok (.istore 5, 2) := by decide +kernel
theorem d_L_law_832 : decode b_L_law 832 = .ok (.aload_n 2, 1) := by decide +kernel
theorem d_L_law_833 : decode b_L_law 833 = .ok (.aload_n 0, 1) := by decide +kernel
theorem d_L_law_834 : decode b_L_law 834 = .ok (.iload 4, 2) := by decide +kernel
theorem d_L_law_836 : decode b_L_law 836 = .ok (.iconst 1, 1) := by decide +kernel
theorem d_L_law_837 : decode b_L_law 837 = .ok (.iadd, 1) := by decide +kernel
theorem d_L_law_838 : decode b_L_law 838 = .ok (.iaload, 1) := by decide +kernel
theorem d_L_law_839 : decode b_L_law 839 = .ok (.aload_n 0, 1) := by decide +kernel
theorem d_L_law_840 : decode b_L_law 840 = .ok (.iload 4, 2) := by decide +kernel
theorem d_L_law_842 : decode b_L_law 842 = .ok (.iconst 2, 1) := by decide +kernel
theorem d_L_law_843 : decode b_L_law 843 = .ok (.iadd, 1) := by decide +kernel
theorem d_L_law_844 : decode b_L_law 844 = .ok (.iaload, 1) := by decide +kernel
theorem d_L_law_845 : decode b_L_law 845 = .ok (.ifCond .eq (7), 3) := by decide +kernel
theorem d_L_law_848 : decode b_L_law 848 = .ok (.iconst 1, 1) := by decide +kernel
theorem d_L_law_849 : decode b_L_law 849 = .ok (.goto (4), 3) := by decide +kernel
theorem d_L_law_852 : decode b_L_law 852 = .ok (.iconst 0, 1) := by decide +kernel
theorem d_L_law_853 : decode b_L_law 853 = .ok (.invokevirtual 119, 3) := by decide +kernel
theorem d_L_law_856 : decode b_L_law 856 = .ok (.aload_n 2, 1) := by decide +kernel
theorem d_L_law_857 : decode b_L_law 857 = .ok (.invokevirtual 82, 3) := by decide +kernel
theorem d_L_law_860 : decode b_L_law 860 = .ok (.iload 5, 2) := by decide +kernel
theorem d_L_law_862 : decode b_L_law 862 = .ok (.if_icmp .eq (5), 3) := by decide +kernel
theorem d_L_law_865 : decode b_L_law 865 = .ok (.iconst 0, 1) := by decide +kernel
theorem d_L_law_866 : decode b_L_law 866 = .ok (.ireturn, 1) := by decide +kernel
theorem d_L_law_867 : decode b_L_law 867 = .ok (.goto (308), 3) := by decide +kernel
theorem d_L_law_870 : decode b_L_law 870 = .ok (.aload_n 1, 1) := by decide +kernel
theorem d_L_law_871 : decode b_L_law 871 = .ok (.aload_n 0, 1) := by decide +kernel
theorem d_L_law_872 : decode b_L_law 872 = .ok (.iload 4, 2) := by decide +kernel
theorem d_L_law_874 : decode b_L_law 874 = .ok (.iconst 1, 1) := by decide +kernel
theorem d_L_law_875 : decode b_L_law 875 = .ok (.iadd, 1) := by decide +kernel
theorem d_L_law_876 : decode b_L_law 876 = .ok (.iaload, 1) := by decide +kernel
theorem d_L_law_877 : decode b_L_law 877 = .ok (.invokestatic 120, 3) := by decide +kernel
theorem d_L_law_880 : decode b_L_law 880 = .ok (.istore 5, 2) := by decide +kernel
theorem d_L_law_882 : decode b_L_law 882 = .ok (.aload_n 2, 1) := by decide +kernel
theorem d_L_law_883 : decode b_L_law 883 = .ok (.aload_n 0, 1) := by decide +kernel
theorem d_L_law_884 : decode b_L_law 884 = .ok (.iload 4, 2) := by decide +kernel
theorem d_L_law_886 : decode b_L_law 886 = .ok (.iconst 1, 1) := by decide +kernel
theorem d_L_law_887 : decode b_L_law 887 = .ok (.iadd, 1) := by decide +kernel
theorem d_L_law_888 : decode b_L_law 888 = .ok (.iaload, 1) := by decide +kernel
theorem d_L_law_889 : decode b_L_law 889 = .ok (.invokevirtual 123, 3) := by decide +kernel
theorem d_L_law_892 : decode b_L_law 892 = .ok (.aload_n 2, 1) := by decide +kernel
theorem d_L_law_893 : decode b_L_law 893 = .ok (.invokevirtual 82, 3) := by decide +kernel
theorem d_L_law_896 : decode b_L_law 896 = .ok (.iload 5, 2) := by decide +kernel
theorem d_L_law_898 : decode b_L_law 898 = .ok (.if_icmp .eq (5), 3) := by decide +kernel
theorem d_L_law_901 : decode b_L_law 901 = .ok (.iconst 0, 1) := by decide +kernel
theorem d_L_law_902 : decode b_L_law 902 = .ok (.ireturn, 1) := by decide +kernel
theorem d_L_law_903 : decode b_L_law 903 = .ok (.goto (272), 3) := by decide +kernel
theorem d_L_law_906 : decode b_L_law 906 = .ok (.aload_n 1, 1) := by decide +kernel
theorem d_L_law_907 : decode b_L_law 907 = .ok (.invokevirtual 124, 3) := by decide +kernel
theorem d_L_law_910 : decode b_L_law 910 = .ok (.aload_n 2, 1) := by decide +kernel
theorem d_L_law_911 : decode b_L_law 911 = .ok (.invokevirtual 127, 3) := by decide +kernel
theorem d_L_law_914 : decode b_L_law 914 = .ok (.goto (261), 3) := by decide +kernel
