theorem d_L_law_1014 : decode b_L_law 1014 = .ok (.if_icmp .eq (5), 3) := by decide +kernel
theorem d_L_law_1017 : decode b_L_law 1017 = .ok (.iconst 0, 1) := by decide +kernel
theorem d_L_law_1018 : decode b_L_law 1018 = .ok (.ireturn, 1) := by decide +kernel
theorem d_L_law_1019 : decode b_L_law 1019 = .ok (.goto (156), 3) := by decide +kernel
theorem d_L_law_1022 : decode b_L_law 1022 = .ok (.aload_n 1, 1) := by decide +kernel
theorem d_L_law_1023 : decode b_L_law 1023 = .ok (.aload_n 0, 1) := by decide +kernel
theorem d_L_law_1024 : decode b_L_law 1024 = .ok (.iload 4, 2) := by decide +kernel
theorem d_L_law_1026 : decode b_L_law 1026 = .ok (.iconst 1, 1) := by decide +kernel
theorem d_L_law_1027 : decode b_L_law 1027 = .ok (.iadd, 1) := by decide +kernel
theorem d_L_law_1028 : decode b_L_law 1028 = .ok (.iaload, 1) := by decide +kernel
theorem d_L_law_1029 : decode b_L_law 1029 = .ok (.aload_n 0, 1) := by decide +kernel
theorem d_L_law_1030 : decode b_L_law 1030 = .ok (.iload 4, 2) := by decide +kernel
theorem d_L_law_1032 : decode b_L_law 1032 = .ok (.iconst 2, 1) := by decide +kernel
theorem d_L_law_1033 : decode b_L_law 1033 = .ok (.iadd, 1) := by decide +kernel
theorem d_L_law_1034 : decode b_L_law 1034 = .ok (.iaload, 1) := by decide +kernel
theorem d_L_law_1035 : decode b_L_law 1035 = .ok (.aload_n 0, 1) := by decide +kernel
theorem d_L_law_1036 : decode b_L_law 1036 = .ok (.iload 4, 2) := by decide +kernel
theorem d_L_law_1038 : decode b_L_law 1038 = .ok (.iconst 3, 1) := by decide +kernel
theorem d_L_law_1039 : decode b_L_law 1039 = .ok (.iadd, 1) := by decide +kernel
theorem d_L_law_1040 : decode b_L_law 1040 = .ok (.iaload, 1) := by decide +kernel
theorem d_L_law_1041 : decode b_L_law 1041 = .ok (.invokestatic 138, 3) := by decide +kernel
theorem d_L_law_1044 : decode b_L_law 1044 = .ok (.istore 5, 2) := by decide +kernel
theorem d_L_law_1046 : decode b_L_law 1046 = .ok (.aload_n 2, 1) := by decide +kernel
theorem d_L_law_1047 : decode b_L_law 1047 = .ok (.aload_n 0, 1) := by decide +kernel
theorem d_L_law_1048 : decode b_L_law 1048 = .ok (.iload 4, 2) := by decide +kernel
theorem d_L_law_1050 : decode b_L_law 1050 = .ok (.iconst 1, 1) := by decide +kernel
theorem d_L_law_1051 : decode b_L_law 1051 = .ok (.iadd, 1) := by decide +kernel
theorem d_L_law_1052 : decode b_L_law 1052 = .ok (.iaload, 1) := by decide +kernel
theorem d_L_law_1053 : decode b_L_law 1053 = .ok (.aload_n 0, 1) := by decide +kernel
theorem d_L_law_1054 : decode b_L_law 1054 = .ok (.iload 4, 2) := by decide +kernel
theorem d_L_law_1056 : decode b_L_law 1056 = .ok (.iconst 2, 1) := by decide +kernel
theorem d_L_law_1057 : decode b_L_law 1057 = .ok (.iadd, 1) := by decide +kernel
theorem d_L_law_1058 : decode b_L_law 1058 = .ok (.iaload, 1) := by decide +kernel
theorem d_L_law_1059 : decode b_L_law 1059 = .ok (.aload_n 0, 1) := by decide +kernel
theorem d_L_law_1060 : decode b_L_law 1060 = .ok (.iload 4, 2) := by decide +kernel
theorem d_L_law_1062 : decode b_L_law 1062 = .ok (.iconst 3, 1) := by decide +kernel
theorem d_L_law_1063 : decode b_L_law 1063 = .ok (.iadd, 1) := by decide +kernel
theorem d_L_law_1064 : decode b_L_law 1064 = .ok (.iaload, 1) := by decide +kernel
theorem d_L_law_1065 : decode b_L_law 1065 = .ok (.invokevirtual 141, 3) := by decide +kernel
theorem d_L_law_1068 : decode b_L_law 1068 = .ok (.aload_n 2, 1) := by decide +kernel
theorem d_L_law_1069 : decode b_L_law 1069 = .ok (.invokevirtual 82, 3) := by decide +kernel
theorem d_L_law_1072 : decode b_L_law 1072 = .ok (.iload 5, 2) := by decide +kernel
theorem d_L_law_1074 : decode b_L_law 1074 = .ok (.if_icmp .eq (5), 3) := by decide +kernel
theorem d_L_law_1077 : decode b_L_law 1077 = .ok (.iconst 0, 1) := by decide +kernel
theorem d_L_law_1078 : decode b_L_law 1078 = .ok (.ireturn, 1) := by decide +kernel
theorem d_L_law_1079 : decode b_L_law 1079 = .ok (.goto (96), 3) := by decide +kernel
theorem d_L_law_1082 : decode b_L_law 1082 = .ok (.aload_n 1, 1) := by decide +kernel
theorem d_L_law_1083 : decode b_L_law 1083 = .ok (.aload_n 0, 1) := by decide +kernel
theorem d_L_law_1084 : decode b_L_law 1084 = .ok (.iload 4, 2) := by decide +kernel
theorem d_L_law_1086 : decode b_L_law 1086 = .ok (.iconst 1, 1) := by decide +kernel
theorem d_L_law_1087 : decode b_L_law 1087 = .ok (.iadd, 1) := by decide +kernel
theorem d_L_law_1088 : decode b_L_law 1088 = .ok (.iaload, 1) := by decide +kernel
theorem d_L_law_1089 : decode b_L_law 1089 = .ok (.aload_n 0, 1) := by decide +kernel
theorem d_L_law_1090 : decode b_L_law 1090 = .ok (.iload 4, 2) := by decide +kernel
theorem d_L_law_1092 : decode b_L_law 1092 = .ok (.iconst 2, 1) := by decide +kernel
theorem d_L_law_1093 : decode b_L_law 1093 = .ok (.iadd, 1) := by decide +kernel
theorem d_L_law_1094 : decode b_L_law 1094 = .ok (.iaload, 1) := by decide +kernel
theorem d_L_law_1095 : decode b_L_law 1095 = .ok (.aload_n 3, 1) := by decide +kernel
theorem d_L_law_1096 : decode b_L_law 1096 = .ok (.invokestatic 142, 3) := by decide +kernel
theorem d_L_law_1099 : decode b_L_law 1099 = .ok (.istore 5, 2) := by decide +kernel
