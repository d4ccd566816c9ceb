theorem d_L_law_795 : decode b_L_law 795 = .ok (.aload_n 0, 1) := by decide +kernel
theorem d_L_law_796 : decode b_L_law 796 = .ok (.iload 4, 2) := by decide +kernel
theorem d_L_law_798 : decode b_L_law 798 = .ok (.iconst 1, 1) := by decide +kernel
theorem d_L_law_799 : decode b_L_law 799 = .ok (.iadd, 1) := by decide +kernel
theorem d_L_law_800 : decode b_L_law 800 = .ok (.iaload, 1) := by decide +kernel
theorem d_L_law_801 : decode b_L_law 801 = .ok (.invokevirtual 148, 3) := by decide +kernel
theorem d_L_law_804 : decode b_L_law 804 = .ok (.pop, 1) := by decide +kernel
theorem d_L_law_805 : decode b_L_law 805 = .ok (.goto (3), 3) := by decide +kernel
theorem d_L_law_808 : decode b_L_law 808 = .ok (.iinc 4 5, 3) := by decide +kernel
theorem d_L_law_811 : decode b_L_law 811 = .ok (.goto (-788), 3) := by decide +kernel
theorem d_L_law_814 : decode b_L_law 814 = .ok (.iconst 1, 1) := by decide +kernel
theorem d_L_law_815 : decode b_L_law 815 = .ok (.ireturn, 1) := by decide +kernel
