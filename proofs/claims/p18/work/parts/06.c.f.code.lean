theorem d_M_sync_59 : decode b_M_sync 59 = .ok (.ireturn, 1) := by decide +kernel
theorem d_M_sync_60 : decode b_M_sync 60 = .ok (.aload_n 0, 1) := by decide +kernel
theorem d_M_sync_61 : decode b_M_sync 61 = .ok (.getfield 37, 3) := by decide +kernel
theorem d_M_sync_64 : decode b_M_sync 64 = .ok (.iload_n 1, 1) := by decide +kernel
theorem d_M_sync_65 : decode b_M_sync 65 = .ok (.aload_n 0, 1) := by decide +kernel
theorem d_M_sync_66 : decode b_M_sync 66 = .ok (.getfield 52, 3) := by decide +kernel
theorem d_M_sync_69 : decode b_M_sync 69 = .ok (.iconst 3, 1) := by decide +kernel
theorem d_M_sync_70 : decode b_M_sync 70 = .ok (.iload_n 1, 1) := by decide +kernel
theorem d_M_sync_71 : decode b_M_sync 71 = .ok (.imul, 1) := by decide +kernel
theorem d_M_sync_72 : decode b_M_sync 72 = .ok (.isub, 1) := by decide +kernel
theorem d_M_sync_73 : decode b_M_sync 73 = .ok (.iastore, 1) := by decide +kernel
theorem d_M_sync_74 : decode b_M_sync 74 = .ok (.iconst 1, 1) := by decide +kernel
theorem d_M_sync_75 : decode b_M_sync 75 = .ok (.ireturn, 1) := by decide +kernel
theorem d_M_ticket_0 : decode b_M_ticket 0 = .ok (.aload_n 0, 1) := by decide +kernel
theorem d_M_ticket_1 : decode b_M_ticket 1 = .ok (.iconst 1, 1) := by decide +kernel
theorem d_M_ticket_2 : decode b_M_ticket 2 = .ok (.aload_n 0, 1) := by decide +kernel
theorem d_M_ticket_3 : decode b_M_ticket 3 = .ok (.getfield 23, 3) := by decide +kernel
theorem d_M_ticket_6 : decode b_M_ticket 6 = .ok (.ifCond .ne (7), 3) := by decide +kernel
theorem d_M_ticket_9 : decode b_M_ticket 9 = .ok (.iconst 1, 1) := by decide +kernel
theorem d_M_ticket_10 : decode b_M_ticket 10 = .ok (.goto (4), 3) := by decide +kernel
theorem d_M_ticket_13 : decode b_M_ticket 13 = .ok (.iconst 0, 1) := by decide +kernel
theorem d_M_ticket_14 : decode b_M_ticket 14 = .ok (.invokevirtual 137, 3) := by decide +kernel
theorem d_M_ticket_17 : decode b_M_ticket 17 = .ok (.ifCond .eq (5), 3) := by decide +kernel
theorem d_M_ticket_20 : decode b_M_ticket 20 = .ok (.iconst 0, 1) := by decide +kernel
theorem d_M_ticket_21 : decode b_M_ticket 21 = .ok (.ireturn, 1) := by decide +kernel
theorem d_M_ticket_22 : decode b_M_ticket 22 = .ok (.iload_n 1, 1) := by decide +kernel
theorem d_M_ticket_23 : decode b_M_ticket 23 = .ok (.iconst 1, 1) := by decide +kernel
theorem d_M_ticket_24 : decode b_M_ticket 24 = .ok (.if_icmp .ge (7), 3) := by decide +kernel
theorem d_M_ticket_27 : decode b_M_ticket 27 = .ok (.iconst (-1), 1) := by decide +kernel
theorem d_M_ticket_28 : decode b_M_ticket 28 = .ok (.goto (8), 3) := by decide +kernel
theorem d_M_ticket_31 : decode b_M_ticket 31 = .ok (.aload_n 0, 1) := by decide +kernel
theorem d_M_ticket_32 : decode b_M_ticket 32 = .ok (.iload_n 1, 1) := by decide +kernel
theorem d_M_ticket_33 : decode b_M_ticket 33 = .ok (.invokevirtual 127, 3) := by decide +kernel
theorem d_M_ticket_36 : decode b_M_ticket 36 = .ok (.istore_n 3, 1) := by decide +kernel
theorem d_M_ticket_37 : decode b_M_ticket 37 = .ok (.aload_n 0, 1) := by decide +kernel
theorem d_M_ticket_38 : decode b_M_ticket 38 = .ok (.iconst 2, 1) := by decide +kernel
theorem d_M_ticket_39 : decode b_M_ticket 39 = .ok (.iload_n 3, 1) := by decide +kernel
theorem d_M_ticket_40 : decode b_M_ticket 40 = .ok (.ifCond .lt (13), 3) := by decide +kernel
theorem d_M_ticket_43 : decode b_M_ticket 43 = .ok (.iload_n 2, 1) := by decide +kernel
theorem d_M_ticket_44 : decode b_M_ticket 44 = .ok (.iconst 0, 1) := by decide +kernel
theorem d_M_ticket_45 : decode b_M_ticket 45 = .ok (.bipush 6, 2) := by decide +kernel
theorem d_M_ticket_47 : decode b_M_ticket 47 = .ok (.invokestatic 130, 3) := by decide +kernel
theorem d_M_ticket_50 : decode b_M_ticket 50 = .ok (.ifCond .ne (7), 3) := by decide +kernel
theorem d_M_ticket_53 : decode b_M_ticket 53 = .ok (.iconst 1, 1) := by decide +kernel
theorem d_M_ticket_54 : decode b_M_ticket 54 = .ok (.goto (4), 3) := by decide +kernel
theorem d_M_ticket_57 : decode b_M_ticket 57 = .ok (.iconst 0, 1) := by decide +kernel
theorem d_M_ticket_58 : decode b_M_ticket 58 = .ok (.invokevirtual 137, 3) := by decide +kernel
theorem d_M_ticket_61 : decode b_M_ticket 61 = .ok (.ifCond .eq (5), 3) := by decide +kernel
theorem d_M_ticket_64 : decode b_M_ticket 64 = .ok (.iconst 0, 1) := by decide +kernel
theorem d_M_ticket_65 : decode b_M_ticket 65 = .ok (.ireturn, 1) := by decide +kernel
theorem d_M_ticket_66 : decode b_M_ticket 66 = .ok (.iload_n 2, 1) := by decide +kernel
theorem d_M_ticket_67 : decode b_M_ticket 67 = .ok (.tableswitch 93 0 5 #[37, 44, 57, 67, 77, 87], 37) := by decide +kernel
theorem d_M_ticket_104 : decode b_M_ticket 104 = .ok (.aload_n 0, 1) := by decide +kernel
theorem d_M_ticket_105 : decode b_M_ticket 105 = .ok (.iload_n 3, 1) := by decide +kernel
theorem d_M_ticket_106 : decode b_M_ticket 106 = .ok (.iconst 0, 1) := by decide +kernel
theorem d_M_ticket_107 : decode b_M_ticket 107 = .ok (.invokevirtual 121, 3) := by decide +kernel
theorem d_M_ticket_110 : decode b_M_ticket 110 = .ok (.ireturn, 1) := by decide +kernel
theorem d_M_ticket_111 : decode b_M_ticket 111 = .ok (.bipush 20, 2) := by decide +kernel
theorem d_M_ticket_113 : decode b_M_ticket 113 = .ok (.aload_n 0, 1) := by decide +kernel
theorem d_M_ticket_114 : decode b_M_ticket 114 = .ok (.iload_n 3, 1) := by decide +kernel
theorem d_M_ticket_115 : decode b_M_ticket 115 = .ok (.iconst 1, 1) := by decide +kernel
theorem d_M_ticket_116 : decode b_M_ticket 116 = .ok (.invokevirtual 121, 3) := by decide +kernel
theorem d_M_ticket_119 : decode b_M_ticket 119 = .ok (.bipush 18, 2) := by decide +kernel
theorem d_M_ticket_121 : decode b_M_ticket 121 = .ok (.iushr, 1) := by decide +kernel
theorem d_M_ticket_122 : decode b_M_ticket 122 = .ok (.imul, 1) := by decide +kernel
theorem d_M_ticket_123 : decode b_M_ticket 123 = .ok (.ireturn, 1) := by decide +kernel
theorem d_M_ticket_124 : decode b_M_ticket 124 = .ok (.aload_n 0, 1) := by decide +kernel
theorem d_M_ticket_125 : decode b_M_ticket 125 = .ok (.iload_n 3, 1) := by decide +kernel
theorem d_M_ticket_126 : decode b_M_ticket 126 = .ok (.iconst 1, 1) := by decide +kernel
theorem d_M_ticket_127 : decode b_M_ticket 127 = .ok (.invokevirtual 121, 3) := by decide +kernel
theorem d_M_ticket_130 : decode b_M_ticket 130 = .ok (.ldc 159, 2) := by decide +kernel
theorem d_M_ticket_132 : decode b_M_ticket 132 = .ok (.iand, 1) := by decide +kernel
theorem d_M_ticket_133 : decode b_M_ticket 133 = .ok (.ireturn, 1) := by decide +kernel
theorem d_M_ticket_134 : decode b_M_ticket 134 = .ok (.aload_n 0, 1) := by decide +kernel
theorem d_M_ticket_135 : decode b_M_ticket 135 = .ok (.iload_n 3, 1) := by decide +kernel
theorem d_M_ticket_136 : decode b_M_ticket 136 = .ok (.iconst 2, 1) := by decide +kernel
theorem d_M_ticket_137 : decode b_M_ticket 137 = .ok (.invokevirtual 121, 3) := by decide +kernel
theorem d_M_ticket_140 : decode b_M_ticket 140 = .ok (.bipush 26, 2) := by decide +kernel
theorem d_M_ticket_142 : decode b_M_ticket 142 = .ok (.iushr, 1) := by decide +kernel
theorem d_M_ticket_143 : decode b_M_ticket 143 = .ok (.ireturn, 1) := by decide +kernel
theorem d_M_ticket_144 : decode b_M_ticket 144 = .ok (.aload_n 0, 1) := by decide +kernel
theorem d_M_ticket_145 : decode b_M_ticket 145 = .ok (.iload_n 3, 1) := by decide +kernel
theorem d_M_ticket_146 : decode b_M_ticket 146 = .ok (.iconst 2, 1) := by decide +kernel
theorem d_M_ticket_147 : decode b_M_ticket 147 = .ok (.invokevirtual 121, 3) := by decide +kernel
theorem d_M_ticket_150 : decode b_M_ticket 150 = .ok (.ldc 142, 2) := by decide +kernel
theorem d_M_ticket_152 : decode b_M_ticket 152 = .ok (.iand, 1) := by decide +kernel
theorem d_M_ticket_153 : decode b_M_ticket 153 = .ok (.ireturn, 1) := by decide +kernel
theorem d_M_ticket_154 : decode b_M_ticket 154 = .ok (.aload_n 0, 1) := by decide +kernel
theorem d_M_ticket_155 : decode b_M_ticket 155 = .ok (.iload_n 1, 1) := by decide +kernel
theorem d_M_ticket_156 : decode b_M_ticket 156 = .ok (.invokevirtual 152, 3) := by decide +kernel
theorem d_M_ticket_159 : decode b_M_ticket 159 = .ok (.ireturn, 1) := by decide +kernel
theorem d_M_ticket_160 : decode b_M_ticket 160 = .ok (.aload_n 0, 1) := by decide +kernel
theorem d_M_ticket_161 : decode b_M_ticket 161 = .ok (.iload_n 3, 1) := by decide +kernel
theorem d_M_ticket_162 : decode b_M_ticket 162 = .ok (.iconst 3, 1) := by decide +kernel
theorem d_M_ticket_163 : decode b_M_ticket 163 = .ok (.invokevirtual 121, 3) := by decide +kernel
theorem d_M_ticket_166 : decode b_M_ticket 166 = .ok (.ireturn, 1) := by decide +kernel
theorem d_M_net_0 : decode b_M_net 0 = .ok (.bipush 20, 2) := by decide +kernel
theorem d_M_net_2 : decode b_M_net 2 = .ok (.aload_n 0, 1) := by decide +kernel
theorem d_M_net_3 : decode b_M_net 3 = .ok (.iload_n 1, 1) := by decide +kernel
theorem d_M_net_4 : decode b_M_net 4 = .ok (.iconst 1, 1) := by decide +kernel
theorem d_M_net_5 : decode b_M_net 5 = .ok (.invokevirtual 121, 3) := by decide +kernel
theorem d_M_net_8 : decode b_M_net 8 = .ok (.bipush 18, 2) := by decide +kernel
theorem d_M_net_10 : decode b_M_net 10 = .ok (.iushr, 1) := by decide +kernel
theorem d_M_net_11 : decode b_M_net 11 = .ok (.imul, 1) := by decide +kernel
theorem d_M_net_12 : decode b_M_net 12 = .ok (.aload_n 0, 1) := by decide +kernel
theorem d_M_net_13 : decode b_M_net 13 = .ok (.iload_n 1, 1) := by decide +kernel
theorem d_M_net_14 : decode b_M_net 14 = .ok (.iconst 1, 1) := by decide +kernel
theorem d_M_net_15 : decode b_M_net 15 = .ok (.invokevirtual 121, 3) := by decide +kernel
theorem d_M_net_18 : decode b_M_net 18 = .ok (.ldc 159, 2) := by decide +kernel
theorem d_M_net_20 : decode b_M_net 20 = .ok (.iand, 1) := by decide +kernel
theorem d_M_net_21 : decode b_M_net 21 = .ok (.isub, 1) := by decide +kernel
theorem d_M_net_22 : decode b_M_net 22 = .ok (.ireturn, 1) := by decide +kernel
theorem d_M_dayTotal_0 : decode b_M_dayTotal 0 = .ok (.aload_n 0, 1) := by decide +kernel
theorem d_M_dayTotal_1 : decode b_M_dayTotal 1 = .ok (.iconst 1, 1) := by decide +kernel
theorem d_M_dayTotal_2 : decode b_M_dayTotal 2 = .ok (.aload_n 0, 1) := by decide +kernel
theorem d_M_dayTotal_3 : decode b_M_dayTotal 3 = .ok (.getfield 23, 3) := by decide +kernel
theorem d_M_dayTotal_6 : decode b_M_dayTotal 6 = .ok (.ifCond .ne (7), 3) := by decide +kernel
theorem d_M_dayTotal_9 : decode b_M_dayTotal 9 = .ok (.iconst 1, 1) := by decide +kernel
theorem d_M_dayTotal_10 : decode b_M_dayTotal 10 = .ok (.goto (4), 3) := by decide +kernel
theorem d_M_dayTotal_13 : decode b_M_dayTotal 13 = .ok (.iconst 0, 1) := by decide +kernel
theorem d_M_dayTotal_14 : decode b_M_dayTotal 14 = .ok (.invokevirtual 137, 3) := by decide +kernel
theorem d_M_dayTotal_17 : decode b_M_dayTotal 17 = .ok (.ifCond .eq (5), 3) := by decide +kernel
theorem d_M_dayTotal_20 : decode b_M_dayTotal 20 = .ok (.lconst 0, 1) := by decide +kernel
theorem d_M_dayTotal_21 : decode b_M_dayTotal 21 = .ok (.lreturn, 1) := by decide +kernel
theorem d_M_dayTotal_22 : decode b_M_dayTotal 22 = .ok (.lconst 0, 1) := by decide +kernel
theorem d_M_dayTotal_23 : decode b_M_dayTotal 23 = .ok (.lstore_n 3, 1) := by decide +kernel
theorem d_M_dayTotal_24 : decode b_M_dayTotal 24 = .ok (.iconst 1, 1) := by decide +kernel
theorem d_M_dayTotal_25 : decode b_M_dayTotal 25 = .ok (.istore 5, 2) := by decide +kernel
theorem d_M_dayTotal_27 : decode b_M_dayTotal 27 = .ok (.iload 5, 2) := by decide +kernel
theorem d_M_dayTotal_29 : decode b_M_dayTotal 29 = .ok (.aload_n 0, 1) := by decide +kernel
theorem d_M_dayTotal_30 : decode b_M_dayTotal 30 = .ok (.invokevirtual 149, 3) := by decide +kernel
theorem d_M_dayTotal_33 : decode b_M_dayTotal 33 = .ok (.if_icmp .gt (68), 3) := by decide +kernel
theorem d_M_dayTotal_36 : decode b_M_dayTotal 36 = .ok (.aload_n 0, 1) := by decide +kernel
theorem d_M_dayTotal_37 : decode b_M_dayTotal 37 = .ok (.iload 5, 2) := by decide +kernel
theorem d_M_dayTotal_39 : decode b_M_dayTotal 39 = .ok (.invokevirtual 127, 3) := by decide +kernel
theorem d_M_dayTotal_42 : decode b_M_dayTotal 42 = .ok (.istore 6, 2) := by decide +kernel
theorem d_M_dayTotal_44 : decode b_M_dayTotal 44 = .ok (.aload_n 0, 1) := by decide +kernel
theorem d_M_dayTotal_45 : decode b_M_dayTotal 45 = .ok (.iload 6, 2) := by decide +kernel
theorem d_M_dayTotal_47 : decode b_M_dayTotal 47 = .ok (.iconst 2, 1) := by decide +kernel
theorem d_M_dayTotal_48 : decode b_M_dayTotal 48 = .ok (.invokevirtual 121, 3) := by decide +kernel
theorem d_M_dayTotal_51 : decode b_M_dayTotal 51 = .ok (.bipush 26, 2) := by decide +kernel
theorem d_M_dayTotal_53 : decode b_M_dayTotal 53 = .ok (.iushr, 1) := by decide +kernel
theorem d_M_dayTotal_54 : decode b_M_dayTotal 54 = .ok (.iload_n 2, 1) := by decide +kernel
theorem d_M_dayTotal_55 : decode b_M_dayTotal 55 = .ok (.if_icmp .ne (40), 3) := by decide +kernel
theorem d_M_dayTotal_58 : decode b_M_dayTotal 58 = .ok (.aload_n 0, 1) := by decide +kernel
theorem d_M_dayTotal_59 : decode b_M_dayTotal 59 = .ok (.iload 6, 2) := by decide +kernel
theorem d_M_dayTotal_61 : decode b_M_dayTotal 61 = .ok (.iconst 2, 1) := by decide +kernel
theorem d_M_dayTotal_62 : decode b_M_dayTotal 62 = .ok (.invokevirtual 121, 3) := by decide +kernel
theorem d_M_dayTotal_65 : decode b_M_dayTotal 65 = .ok (.ldc 142, 2) := by decide +kernel
theorem d_M_dayTotal_67 : decode b_M_dayTotal 67 = .ok (.iand, 1) := by decide +kernel
theorem d_M_dayTotal_68 : decode b_M_dayTotal 68 = .ok (.sipush 1440, 3) := by decide +kernel
theorem d_M_dayTotal_71 : decode b_M_dayTotal 71 = .ok (.idiv, 1) := by decide +kernel
theorem d_M_dayTotal_72 : decode b_M_dayTotal 72 = .ok (.iload_n 1, 1) := by decide +kernel
theorem d_M_dayTotal_73 : decode b_M_dayTotal 73 = .ok (.if_icmp .ne (22), 3) := by decide +kernel
theorem d_M_dayTotal_76 : decode b_M_dayTotal 76 = .ok (.aload_n 0, 1) := by decide +kernel
theorem d_M_dayTotal_77 : decode b_M_dayTotal 77 = .ok (.iload 5, 2) := by decide +kernel
theorem d_M_dayTotal_79 : decode b_M_dayTotal 79 = .ok (.invokevirtual 152, 3) := by decide +kernel
theorem d_M_dayTotal_82 : decode b_M_dayTotal 82 = .ok (.ifCond .ne (13), 3) := by decide +kernel
theorem d_M_dayTotal_85 : decode b_M_dayTotal 85 = .ok (.lload_n 3, 1) := by decide +kernel
theorem d_M_dayTotal_86 : decode b_M_dayTotal 86 = .ok (.aload_n 0, 1) := by decide +kernel
theorem d_M_dayTotal_87 : decode b_M_dayTotal 87 = .ok (.iload 6, 2) := by decide +kernel
theorem d_M_dayTotal_89 : decode b_M_dayTotal 89 = .ok (.invokevirtual 160, 3) := by decide +kernel
theorem d_M_dayTotal_92 : decode b_M_dayTotal 92 = .ok (.i2l, 1) := by decide +kernel
theorem d_M_dayTotal_93 : decode b_M_dayTotal 93 = .ok (.ladd, 1) := by decide +kernel
theorem d_M_dayTotal_94 : decode b_M_dayTotal 94 = .ok (.lstore_n 3, 1) := by decide +kernel
theorem d_M_dayTotal_95 : decode b_M_dayTotal 95 = .ok (.iinc 5 1, 3) := by decide +kernel
theorem d_M_dayTotal_98 : decode b_M_dayTotal 98 = .ok (.goto (-71), 3) := by decide +kernel
theorem d_M_dayTotal_101 : decode b_M_dayTotal 101 = .ok (.lload_n 3, 1) := by decide +kernel
theorem d_M_dayTotal_102 : decode b_M_dayTotal 102 = .ok (.lreturn, 1) := by decide +kernel
theorem d_M_rangeTotal_0 : decode b_M_rangeTotal 0 = .ok (.aload_n 0, 1) := by decide +kernel
theorem d_M_rangeTotal_1 : decode b_M_rangeTotal 1 = .ok (.iconst 1, 1) := by decide +kernel
theorem d_M_rangeTotal_2 : decode b_M_rangeTotal 2 = .ok (.aload_n 0, 1) := by decide +kernel
theorem d_M_rangeTotal_3 : decode b_M_rangeTotal 3 = .ok (.getfield 23, 3) := by decide +kernel
theorem d_M_rangeTotal_6 : decode b_M_rangeTotal 6 = .ok (.ifCond .ne (7), 3) := by decide +kernel
theorem d_M_rangeTotal_9 : decode b_M_rangeTotal 9 = .ok (.iconst 1, 1) := by decide +kernel
theorem d_M_rangeTotal_10 : decode b_M_rangeTotal 10 = .ok (.goto (4), 3) := by decide +kernel
theorem d_M_rangeTotal_13 : decode b_M_rangeTotal 13 = .ok (.iconst 0, 1) := by decide +kernel
theorem d_M_rangeTotal_14 : decode b_M_rangeTotal 14 = .ok (.invokevirtual 137, 3) := by decide +kernel
theorem d_M_rangeTotal_17 : decode b_M_rangeTotal 17 = .ok (.ifCond .eq (5), 3) := by decide +kernel
theorem d_M_rangeTotal_20 : decode b_M_rangeTotal 20 = .ok (.lconst 0, 1) := by decide +kernel
theorem d_M_rangeTotal_21 : decode b_M_rangeTotal 21 = .ok (.lreturn, 1) := by decide +kernel
theorem d_M_rangeTotal_22 : decode b_M_rangeTotal 22 = .ok (.lconst 0, 1) := by decide +kernel
theorem d_M_rangeTotal_23 : decode b_M_rangeTotal 23 = .ok (.lstore_n 3, 1) := by decide +kernel
theorem d_M_rangeTotal_24 : decode b_M_rangeTotal 24 = .ok (.iconst 1, 1) := by decide +kernel
theorem d_M_rangeTotal_25 : decode b_M_rangeTotal 25 = .ok (.istore 5, 2) := by decide +kernel
theorem d_M_rangeTotal_27 : decode b_M_rangeTotal 27 = .ok (.iload 5, 2) := by decide +kernel
theorem d_M_rangeTotal_29 : decode b_M_rangeTotal 29 = .ok (.aload_n 0, 1) := by decide +kernel
theorem d_M_rangeTotal_30 : decode b_M_rangeTotal 30 = .ok (.invokevirtual 149, 3) := by decide +kernel
theorem d_M_rangeTotal_33 : decode b_M_rangeTotal 33 = .ok (.if_icmp .gt (44), 3) := by decide +kernel
theorem d_M_rangeTotal_36 : decode b_M_rangeTotal 36 = .ok (.iload 5, 2) := by decide +kernel
theorem d_M_rangeTotal_38 : decode b_M_rangeTotal 38 = .ok (.iload_n 1, 1) := by decide +kernel
theorem d_M_rangeTotal_39 : decode b_M_rangeTotal 39 = .ok (.if_icmp .lt (32), 3) := by decide +kernel
theorem d_M_rangeTotal_42 : decode b_M_rangeTotal 42 = .ok (.iload 5, 2) := by decide +kernel
theorem d_M_rangeTotal_44 : decode b_M_rangeTotal 44 = .ok (.iload_n 2, 1) := by decide +kernel
theorem d_M_rangeTotal_45 : decode b_M_rangeTotal 45 = .ok (.if_icmp .gt (26), 3) := by decide +kernel
theorem d_M_rangeTotal_48 : decode b_M_rangeTotal 48 = .ok (.aload_n 0, 1) := by decide +kernel
theorem d_M_rangeTotal_49 : decode b_M_rangeTotal 49 = .ok (.iload 5, 2) := by decide +kernel
theorem d_M_rangeTotal_51 : decode b_M_rangeTotal 51 = .ok (.invokevirtual 152, 3) := by decide +kernel
theorem d_M_rangeTotal_54 : decode b_M_rangeTotal 54 = .ok (.ifCond .ne (17), 3) := by decide +kernel
theorem d_M_rangeTotal_57 : decode b_M_rangeTotal 57 = .ok (.lload_n 3, 1) := by decide +kernel
theorem d_M_rangeTotal_58 : decode b_M_rangeTotal 58 = .ok (.aload_n 0, 1) := by decide +kernel
theorem d_M_rangeTotal_59 : decode b_M_rangeTotal 59 = .ok (.aload_n 0, 1) := by decide +kernel
theorem d_M_rangeTotal_60 : decode b_M_rangeTotal 60 = .ok (.iload 5, 2) := by decide +kernel
theorem d_M_rangeTotal_62 : decode b_M_rangeTotal 62 = .ok (.invokevirtual 127, 3) := by decide +kernel
theorem d_M_rangeTotal_65 : decode b_M_rangeTotal 65 = .ok (.invokevirtual 160, 3) := by decide +kernel
theorem d_M_rangeTotal_68 : decode b_M_rangeTotal 68 = .ok (.i2l, 1) := by decide +kernel
theorem d_M_rangeTotal_69 : decode b_M_rangeTotal 69 = .ok (.ladd, 1) := by decide +kernel
theorem d_M_rangeTotal_70 : decode b_M_rangeTotal 70 = .ok (.lstore_n 3, 1) := by decide +kernel
theorem d_M_rangeTotal_71 : decode b_M_rangeTotal 71 = .ok (.iinc 5 1, 3) := by decide +kernel
theorem d_M_rangeTotal_74 : decode b_M_rangeTotal 74 = .ok (.goto (-47), 3) := by decide +kernel
theorem d_M_rangeTotal_77 : decode b_M_rangeTotal 77 = .ok (.lload_n 3, 1) := by decide +kernel
theorem d_M_rangeTotal_78 : decode b_M_rangeTotal 78 = .ok (.lreturn, 1) := by decide +kernel
theorem d_M_find_0 : decode b_M_find 0 = .ok (.aload_n 0, 1) := by decide +kernel
theorem d_M_find_1 : decode b_M_find 1 = .ok (.iconst 1, 1) := by decide +kernel
theorem d_M_find_2 : decode b_M_find 2 = .ok (.aload_n 0, 1) := by decide +kernel
theorem d_M_find_3 : decode b_M_find 3 = .ok (.getfield 23, 3) := by decide +kernel
theorem d_M_find_6 : decode b_M_find 6 = .ok (.ifCond .ne (7), 3) := by decide +kernel
theorem d_M_find_9 : decode b_M_find 9 = .ok (.iconst 1, 1) := by decide +kernel
theorem d_M_find_10 : decode b_M_find 10 = .ok (.goto (4), 3) := by decide +kernel
theorem d_M_find_13 : decode b_M_find 13 = .ok (.iconst 0, 1) := by decide +kernel
theorem d_M_find_14 : decode b_M_find 14 = .ok (.invokevirtual 137, 3) := by decide +kernel
theorem d_M_find_17 : decode b_M_find 17 = .ok (.ifCond .eq (5), 3) := by decide +kernel
theorem d_M_find_20 : decode b_M_find 20 = .ok (.iconst 0, 1) := by decide +kernel
theorem d_M_find_21 : decode b_M_find 21 = .ok (.ireturn, 1) := by decide +kernel
theorem d_M_find_22 : decode b_M_find 22 = .ok (.iconst 1, 1) := by decide +kernel
theorem d_M_find_23 : decode b_M_find 23 = .ok (.istore_n 3, 1) := by decide +kernel
theorem d_M_find_24 : decode b_M_find 24 = .ok (.iload_n 3, 1) := by decide +kernel
theorem d_M_find_25 : decode b_M_find 25 = .ok (.aload_n 0, 1) := by decide +kernel
theorem d_M_find_26 : decode b_M_find 26 = .ok (.invokevirtual 149, 3) := by decide +kernel
theorem d_M_find_29 : decode b_M_find 29 = .ok (.if_icmp .gt (30), 3) := by decide +kernel
theorem d_M_find_32 : decode b_M_find 32 = .ok (.iload_n 3, 1) := by decide +kernel
theorem d_M_find_33 : decode b_M_find 33 = .ok (.iload_n 2, 1) := by decide +kernel
theorem d_M_find_34 : decode b_M_find 34 = .ok (.if_icmp .lt (19), 3) := by decide +kernel
theorem d_M_find_37 : decode b_M_find 37 = .ok (.aload_n 0, 1) := by decide +kernel
theorem d_M_find_38 : decode b_M_find 38 = .ok (.aload_n 0, 1) := by decide +kernel
theorem d_M_find_39 : decode b_M_find 39 = .ok (.iload_n 3, 1) := by decide +kernel
theorem d_M_find_40 : decode b_M_find 40 = .ok (.invokevirtual 127, 3) := by decide +kernel
theorem d_M_find_43 : decode b_M_find 43 = .ok (.iconst 0, 1) := by decide +kernel
theorem d_M_find_44 : decode b_M_find 44 = .ok (.invokevirtual 121, 3) := by decide +kernel
theorem d_M_find_47 : decode b_M_find 47 = .ok (.iload_n 1, 1) := by decide +kernel
theorem d_M_find_48 : decode b_M_find 48 = .ok (.if_icmp .ne (5), 3) := by decide +kernel
theorem d_M_find_51 : decode b_M_find 51 = .ok (.iload_n 3, 1) := by decide +kernel
theorem d_M_find_52 : decode b_M_find 52 = .ok (.ireturn, 1) := by decide +kernel
theorem d_M_find_53 : decode b_M_find 53 = .ok (.iinc 3 1, 3) := by decide +kernel
theorem d_M_find_56 : decode b_M_find 56 = .ok (.goto (-32), 3) := by decide +kernel
theorem d_M_find_59 : decode b_M_find 59 = .ok (.iconst 0, 1) := by decide +kernel
theorem d_M_find_60 : decode b_M_find 60 = .ok (.ireturn, 1) := by decide +kernel
theorem d_M_onChip_0 : decode b_M_onChip 0 = .ok (.bipush 16, 2) := by decide +kernel
theorem d_M_onChip_2 : decode b_M_onChip 2 = .ok (.aload_n 0, 1) := by decide +kernel
theorem d_M_onChip_3 : decode b_M_onChip 3 = .ok (.getfield 34, 3) := by decide +kernel
theorem d_M_onChip_6 : decode b_M_onChip 6 = .ok (.iload_n 1, 1) := by decide +kernel
theorem d_M_onChip_7 : decode b_M_onChip 7 = .ok (.iconst 3, 1) := by decide +kernel
theorem d_M_onChip_8 : decode b_M_onChip 8 = .ok (.idiv, 1) := by decide +kernel
theorem d_M_onChip_9 : decode b_M_onChip 9 = .ok (.iaload, 1) := by decide +kernel
theorem d_M_onChip_10 : decode b_M_onChip 10 = .ok (.imul, 1) := by decide +kernel
theorem d_M_onChip_11 : decode b_M_onChip 11 = .ok (.iconst 2, 1) := by decide +kernel
theorem d_M_onChip_12 : decode b_M_onChip 12 = .ok (.iadd, 1) := by decide +kernel
theorem d_M_onChip_13 : decode b_M_onChip 13 = .ok (.iconst 4, 1) := by decide +kernel
theorem d_M_onChip_14 : decode b_M_onChip 14 = .ok (.iload_n 1, 1) := by decide +kernel
theorem d_M_onChip_15 : decode b_M_onChip 15 = .ok (.iconst 3, 1) := by decide +kernel
theorem d_M_onChip_16 : decode b_M_onChip 16 = .ok (.irem, 1) := by decide +kernel
theorem d_M_onChip_17 : decode b_M_onChip 17 = .ok (.imul, 1) := by decide +kernel
theorem d_M_onChip_18 : decode b_M_onChip 18 = .ok (.iadd, 1) := by decide +kernel
theorem d_M_onChip_19 : decode b_M_onChip 19 = .ok (.ireturn, 1) := by decide +kernel
theorem d_M_isBad_0 : decode b_M_isBad 0 = .ok (.aload_n 0, 1) := by decide +kernel
theorem d_M_isBad_1 : decode b_M_isBad 1 = .ok (.getfield 34, 3) := by decide +kernel
theorem d_M_isBad_4 : decode b_M_isBad 4 = .ok (.iload_n 1, 1) := by decide +kernel
theorem d_M_isBad_5 : decode b_M_isBad 5 = .ok (.iconst 3, 1) := by decide +kernel
theorem d_M_isBad_6 : decode b_M_isBad 6 = .ok (.idiv, 1) := by decide +kernel
theorem d_M_isBad_7 : decode b_M_isBad 7 = .ok (.iaload, 1) := by decide +kernel
theorem d_M_isBad_8 : decode b_M_isBad 8 = .ok (.ifCond .lt (21), 3) := by decide +kernel
theorem d_M_isBad_11 : decode b_M_isBad 11 = .ok (.iload_n 1, 1) := by decide +kernel
theorem d_M_isBad_12 : decode b_M_isBad 12 = .ok (.iconst 3, 1) := by decide +kernel
theorem d_M_isBad_13 : decode b_M_isBad 13 = .ok (.iload_n 1, 1) := by decide +kernel
theorem d_M_isBad_14 : decode b_M_isBad 14 = .ok (.iconst 3, 1) := by decide +kernel
theorem d_M_isBad_15 : decode b_M_isBad 15 = .ok (.idiv, 1) := by decide +kernel
theorem d_M_isBad_16 : decode b_M_isBad 16 = .ok (.imul, 1) := by decide +kernel
theorem d_M_isBad_17 : decode b_M_isBad 17 = .ok (.aload_n 0, 1) := by decide +kernel
theorem d_M_isBad_18 : decode b_M_isBad 18 = .ok (.getfield 37, 3) := by decide +kernel
theorem d_M_isBad_21 : decode b_M_isBad 21 = .ok (.iload_n 1, 1) := by decide +kernel
theorem d_M_isBad_22 : decode b_M_isBad 22 = .ok (.iconst 3, 1) := by decide +kernel
theorem d_M_isBad_23 : decode b_M_isBad 23 = .ok (.idiv, 1) := by decide +kernel
theorem d_M_isBad_24 : decode b_M_isBad 24 = .ok (.iaload, 1) := by decide +kernel
theorem d_M_isBad_25 : decode b_M_isBad 25 = .ok (.iadd, 1) := by decide +kernel
theorem d_M_isBad_26 : decode b_M_isBad 26 = .ok (.if_icmp .lt (5), 3) := by decide +kernel
theorem d_M_isBad_29 : decode b_M_isBad 29 = .ok (.iconst 0, 1) := by decide +kernel
theorem d_M_isBad_30 : decode b_M_isBad 30 = .ok (.ireturn, 1) := by decide +kernel
theorem d_M_isBad_31 : decode b_M_isBad 31 = .ok (.aload_n 0, 1) := by decide +kernel
theorem d_M_isBad_32 : decode b_M_isBad 32 = .ok (.aload_n 0, 1) := by decide +kernel
theorem d_M_isBad_33 : decode b_M_isBad 33 = .ok (.getfield 34, 3) := by decide +kernel
theorem d_M_isBad_36 : decode b_M_isBad 36 = .ok (.iload_n 1, 1) := by decide +kernel
theorem d_M_isBad_37 : decode b_M_isBad 37 = .ok (.iconst 3, 1) := by decide +kernel
theorem d_M_isBad_38 : decode b_M_isBad 38 = .ok (.idiv, 1) := by decide +kernel
theorem d_M_isBad_39 : decode b_M_isBad 39 = .ok (.iaload, 1) := by decide +kernel
theorem d_M_isBad_40 : decode b_M_isBad 40 = .ok (.invokevirtual 163, 3) := by decide +kernel
theorem d_M_isBad_43 : decode b_M_isBad 43 = .ok (.ifCond .ne (5), 3) := by decide +kernel
theorem d_M_isBad_46 : decode b_M_isBad 46 = .ok (.iconst 1, 1) := by decide +kernel
theorem d_M_isBad_47 : decode b_M_isBad 47 = .ok (.ireturn, 1) := by decide +kernel
theorem d_M_isBad_48 : decode b_M_isBad 48 = .ok (.iload_n 1, 1) := by decide +kernel
theorem d_M_isBad_49 : decode b_M_isBad 49 = .ok (.ifCond .ne (9), 3) := by decide +kernel
theorem d_M_isBad_52 : decode b_M_isBad 52 = .ok (.sipush 7989, 3) := by decide +kernel
theorem d_M_isBad_55 : decode b_M_isBad 55 = .ok (.goto (19), 3) := by decide +kernel
theorem d_M_isBad_58 : decode b_M_isBad 58 = .ok (.aload_n 0, 1) := by decide +kernel
theorem d_M_isBad_59 : decode b_M_isBad 59 = .ok (.aload_n 0, 1) := by decide +kernel
theorem d_M_isBad_60 : decode b_M_isBad 60 = .ok (.getfield 7, 3) := by decide +kernel
theorem d_M_isBad_63 : decode b_M_isBad 63 = .ok (.aload_n 0, 1) := by decide +kernel
theorem d_M_isBad_64 : decode b_M_isBad 64 = .ok (.iload_n 1, 1) := by decide +kernel
theorem d_M_isBad_65 : decode b_M_isBad 65 = .ok (.iconst 1, 1) := by decide +kernel
theorem d_M_isBad_66 : decode b_M_isBad 66 = .ok (.isub, 1) := by decide +kernel
theorem d_M_isBad_67 : decode b_M_isBad 67 = .ok (.invokevirtual 166, 3) := by decide +kernel
theorem d_M_isBad_70 : decode b_M_isBad 70 = .ok (.iconst 4, 1) := by decide +kernel
theorem d_M_isBad_71 : decode b_M_isBad 71 = .ok (.invokevirtual 76, 3) := by decide +kernel
theorem d_M_isBad_74 : decode b_M_isBad 74 = .ok (.istore_n 2, 1) := by decide +kernel
theorem d_M_isBad_75 : decode b_M_isBad 75 = .ok (.aload_n 0, 1) := by decide +kernel
theorem d_M_isBad_76 : decode b_M_isBad 76 = .ok (.getfield 7, 3) := by decide +kernel
theorem d_M_isBad_79 : decode b_M_isBad 79 = .ok (.aload_n 0, 1) := by decide +kernel
theorem d_M_isBad_80 : decode b_M_isBad 80 = .ok (.iload_n 1, 1) := by decide +kernel
theorem d_M_isBad_81 : decode b_M_isBad 81 = .ok (.invokevirtual 166, 3) := by decide +kernel
theorem d_M_isBad_84 : decode b_M_isBad 84 = .ok (.iconst 3, 1) := by decide +kernel
theorem d_M_isBad_85 : decode b_M_isBad 85 = .ok (.iadd, 1) := by decide +kernel
theorem d_M_isBad_86 : decode b_M_isBad 86 = .ok (.iaload, 1) := by decide +kernel
theorem d_M_isBad_87 : decode b_M_isBad 87 = .ok (.iload_n 2, 1) := by decide +kernel
theorem d_M_isBad_88 : decode b_M_isBad 88 = .ok (.if_icmp .eq (7), 3) := by decide +kernel
theorem d_M_isBad_91 : decode b_M_isBad 91 = .ok (.iconst 1, 1) := by decide +kernel
theorem d_M_isBad_92 : decode b_M_isBad 92 = .ok (.goto (4), 3) := by decide +kernel
theorem d_M_isBad_95 : decode b_M_isBad 95 = .ok (.iconst 0, 1) := by decide +kernel
theorem d_M_isBad_96 : decode b_M_isBad 96 = .ok (.ireturn, 1) := by decide +kernel
theorem d_M_audit_0 : decode b_M_audit 0 = .ok (.aload_n 0, 1) := by decide +kernel
theorem d_M_audit_1 : decode b_M_audit 1 = .ok (.iconst 1, 1) := by decide +kernel
theorem d_M_audit_2 : decode b_M_audit 2 = .ok (.aload_n 0, 1) := by decide +kernel
theorem d_M_audit_3 : decode b_M_audit 3 = .ok (.getfield 23, 3) := by decide +kernel
theorem d_M_audit_6 : decode b_M_audit 6 = .ok (.ifCond .ne (7), 3) := by decide +kernel
theorem d_M_audit_9 : decode b_M_audit 9 = .ok (.iconst 1, 1) := by decide +kernel
theorem d_M_audit_10 : decode b_M_audit 10 = .ok (.goto (4), 3) := by decide +kernel
theorem d_M_audit_13 : decode b_M_audit 13 = .ok (.iconst 0, 1) := by decide +kernel
theorem d_M_audit_14 : decode b_M_audit 14 = .ok (.invokevirtual 137, 3) := by decide +kernel
theorem d_M_audit_17 : decode b_M_audit 17 = .ok (.ifCond .eq (5), 3) := by decide +kernel
theorem d_M_audit_20 : decode b_M_audit 20 = .ok (.iconst 0, 1) := by decide +kernel
theorem d_M_audit_21 : decode b_M_audit 21 = .ok (.ireturn, 1) := by decide +kernel
theorem d_M_audit_22 : decode b_M_audit 22 = .ok (.iconst 1, 1) := by decide +kernel
theorem d_M_audit_23 : decode b_M_audit 23 = .ok (.istore_n 3, 1) := by decide +kernel
theorem d_M_audit_24 : decode b_M_audit 24 = .ok (.iload_n 3, 1) := by decide +kernel
theorem d_M_audit_25 : decode b_M_audit 25 = .ok (.aload_n 0, 1) := by decide +kernel
theorem d_M_audit_26 : decode b_M_audit 26 = .ok (.invokevirtual 149, 3) := by decide +kernel
theorem d_M_audit_29 : decode b_M_audit 29 = .ok (.if_icmp .gt (33), 3) := by decide +kernel
theorem d_M_audit_32 : decode b_M_audit 32 = .ok (.iload_n 3, 1) := by decide +kernel
theorem d_M_audit_33 : decode b_M_audit 33 = .ok (.iload_n 1, 1) := by decide +kernel
theorem d_M_audit_34 : decode b_M_audit 34 = .ok (.if_icmp .lt (22), 3) := by decide +kernel
theorem d_M_audit_37 : decode b_M_audit 37 = .ok (.iload_n 3, 1) := by decide +kernel
theorem d_M_audit_38 : decode b_M_audit 38 = .ok (.iload_n 2, 1) := by decide +kernel
theorem d_M_audit_39 : decode b_M_audit 39 = .ok (.if_icmp .gt (17), 3) := by decide +kernel
theorem d_M_audit_42 : decode b_M_audit 42 = .ok (.aload_n 0, 1) := by decide +kernel
theorem d_M_audit_43 : decode b_M_audit 43 = .ok (.aload_n 0, 1) := by decide +kernel
theorem d_M_audit_44 : decode b_M_audit 44 = .ok (.iload_n 3, 1) := by decide +kernel
theorem d_M_audit_45 : decode b_M_audit 45 = .ok (.invokevirtual 127, 3) := by decide +kernel
theorem d_M_audit_48 : decode b_M_audit 48 = .ok (.invokevirtual 169, 3) := by decide +kernel
theorem d_M_audit_51 : decode b_M_audit 51 = .ok (.ifCond .eq (5), 3) := by decide +kernel
theorem d_M_audit_54 : decode b_M_audit 54 = .ok (.iload_n 3, 1) := by decide +kernel
theorem d_M_audit_55 : decode b_M_audit 55 = .ok (.ireturn, 1) := by decide +kernel
theorem d_M_audit_56 : decode b_M_audit 56 = .ok (.iinc 3 1, 3) := by decide +kernel
theorem d_M_audit_59 : decode b_M_audit 59 = .ok (.goto (-35), 3) := by decide +kernel
theorem d_M_audit_62 : decode b_M_audit 62 = .ok (.iconst 0, 1) := by decide +kernel
theorem d_M_audit_63 : decode b_M_audit 63 = .ok (.ireturn, 1) := by decide +kernel
theorem d_M_say_0 : decode b_M_say 0 = .ok (.aload_n 0, 1) := by decide +kernel
theorem d_M_say_1 : decode b_M_say 1 = .ok (.getfield 172, 3) := by decide +kernel
theorem d_M_say_4 : decode b_M_say 4 = .ok (.aload_n 0, 1) := by decide +kernel
theorem d_M_say_5 : decode b_M_say 5 = .ok (.getfield 175, 3) := by decide +kernel
theorem d_M_say_8 : decode b_M_say 8 = .ok (.if_icmp .ne (8), 3) := by decide +kernel
theorem d_M_say_11 : decode b_M_say 11 = .ok (.aload_n 0, 1) := by decide +kernel
theorem d_M_say_12 : decode b_M_say 12 = .ok (.iload_n 1, 1) := by decide +kernel
theorem d_M_say_13 : decode b_M_say 13 = .ok (.putfield 178, 3) := by decide +kernel
theorem d_M_say_16 : decode b_M_say 16 = .ok (.aload_n 0, 1) := by decide +kernel
theorem d_M_say_17 : decode b_M_say 17 = .ok (.dup, 1) := by decide +kernel
theorem d_M_say_18 : decode b_M_say 18 = .ok (.getfield 172, 3) := by decide +kernel
theorem d_M_say_21 : decode b_M_say 21 = .ok (.iconst 1, 1) := by decide +kernel
theorem d_M_say_22 : decode b_M_say 22 = .ok (.iadd, 1) := by decide +kernel
theorem d_M_say_23 : decode b_M_say 23 = .ok (.putfield 172, 3) := by decide +kernel
theorem d_M_say_26 : decode b_M_say 26 = .ok (.return_, 1) := by decide +kernel
theorem d_M_sayNumber_0 : decode b_M_sayNumber 0 = .ok (.lload_n 1, 1) := by decide +kernel
theorem d_M_sayNumber_1 : decode b_M_sayNumber 1 = .ok (.lconst 0, 1) := by decide +kernel
theorem d_M_sayNumber_2 : decode b_M_sayNumber 2 = .ok (.lcmp, 1) := by decide +kernel
theorem d_M_sayNumber_3 : decode b_M_sayNumber 3 = .ok (.ifCond .ge (8), 3) := by decide +kernel
theorem d_M_sayNumber_6 : decode b_M_sayNumber 6 = .ok (.lload_n 1, 1) := by decide +kernel
theorem d_M_sayNumber_7 : decode b_M_sayNumber 7 = .ok (.lneg, 1) := by decide +kernel
theorem d_M_sayNumber_8 : decode b_M_sayNumber 8 = .ok (.goto (4), 3) := by decide +kernel
theorem d_M_sayNumber_11 : decode b_M_sayNumber 11 = .ok (.lload_n 1, 1) := by decide +kernel
theorem d_M_sayNumber_12 : decode b_M_sayNumber 12 = .ok (.lstore_n 3, 1) := by decide +kernel
theorem d_M_sayNumber_13 : decode b_M_sayNumber 13 = .ok (.lload_n 1, 1) := by decide +kernel
theorem d_M_sayNumber_14 : decode b_M_sayNumber 14 = .ok (.lconst 0, 1) := by decide +kernel
theorem d_M_sayNumber_15 : decode b_M_sayNumber 15 = .ok (.lcmp, 1) := by decide +kernel
theorem d_M_sayNumber_16 : decode b_M_sayNumber 16 = .ok (.ifCond .ge (9), 3) := by decide +kernel
theorem d_M_sayNumber_19 : decode b_M_sayNumber 19 = .ok (.aload_n 0, 1) := by decide +kernel
theorem d_M_sayNumber_20 : decode b_M_sayNumber 20 = .ok (.bipush 45, 2) := by decide +kernel
theorem d_M_sayNumber_22 : decode b_M_sayNumber 22 = .ok (.invokevirtual 181, 3) := by decide +kernel
theorem d_M_sayNumber_25 : decode b_M_sayNumber 25 = .ok (.lconst 1, 1) := by decide +kernel
theorem d_M_sayNumber_26 : decode b_M_sayNumber 26 = .ok (.lstore 5, 2) := by decide +kernel
theorem d_M_sayNumber_28 : decode b_M_sayNumber 28 = .ok (.lload_n 3, 1) := by decide +kernel
theorem d_M_sayNumber_29 : decode b_M_sayNumber 29 = .ok (.lload 5, 2) := by decide +kernel
theorem d_M_sayNumber_31 : decode b_M_sayNumber 31 = .ok (.ldiv, 1) := by decide +kernel
theorem d_M_sayNumber_32 : decode b_M_sayNumber 32 = .ok (.ldc2_w 185, 3) := by decide +kernel
theorem d_M_sayNumber_35 : decode b_M_sayNumber 35 = .ok (.lcmp, 1) := by decide +kernel
theorem d_M_sayNumber_36 : decode b_M_sayNumber 36 = .ok (.ifCond .le (14), 3) := by decide +kernel
theorem d_M_sayNumber_39 : decode b_M_sayNumber 39 = .ok (.lload 5, 2) := by decide +kernel
theorem d_M_sayNumber_41 : decode b_M_sayNumber 41 = .ok (.ldc2_w 187, 3) := by decide +kernel
theorem d_M_sayNumber_44 : decode b_M_sayNumber 44 = .ok (.lmul, 1) := by decide +kernel
theorem d_M_sayNumber_45 : decode b_M_sayNumber 45 = .ok (.lstore 5, 2) := by decide +kernel
theorem d_M_sayNumber_47 : decode b_M_sayNumber 47 = .ok (.goto (-19), 3) := by decide +kernel
theorem d_M_sayNumber_50 : decode b_M_sayNumber 50 = .ok (.lload 5, 2) := by decide +kernel
theorem d_M_sayNumber_52 : decode b_M_sayNumber 52 = .ok (.lconst 0, 1) := by decide +kernel
theorem d_M_sayNumber_53 : decode b_M_sayNumber 53 = .ok (.lcmp, 1) := by decide +kernel
theorem d_M_sayNumber_54 : decode b_M_sayNumber 54 = .ok (.ifCond .le (31), 3) := by decide +kernel
theorem d_M_sayNumber_57 : decode b_M_sayNumber 57 = .ok (.aload_n 0, 1) := by decide +kernel
theorem d_M_sayNumber_58 : decode b_M_sayNumber 58 = .ok (.ldc2_w 189, 3) := by decide +kernel
theorem d_M_sayNumber_61 : decode b_M_sayNumber 61 = .ok (.lload_n 3, 1) := by decide +kernel
theorem d_M_sayNumber_62 : decode b_M_sayNumber 62 = .ok (.lload 5, 2) := by decide +kernel
theorem d_M_sayNumber_64 : decode b_M_sayNumber 64 = .ok (.ldiv, 1) := by decide +kernel
theorem d_M_sayNumber_65 : decode b_M_sayNumber 65 = .ok (.ldc2_w 187, 3) := by decide +kernel
theorem d_M_sayNumber_68 : decode b_M_sayNumber 68 = .ok (.lrem, 1) := by decide +kernel
theorem d_M_sayNumber_69 : decode b_M_sayNumber 69 = .ok (.ladd, 1) := by decide +kernel
theorem d_M_sayNumber_70 : decode b_M_sayNumber 70 = .ok (.l2i, 1) := by decide +kernel
theorem d_M_sayNumber_71 : decode b_M_sayNumber 71 = .ok (.invokevirtual 181, 3) := by decide +kernel
theorem d_M_sayNumber_74 : decode b_M_sayNumber 74 = .ok (.lload 5, 2) := by decide +kernel
theorem d_M_sayNumber_76 : decode b_M_sayNumber 76 = .ok (.ldc2_w 187, 3) := by decide +kernel
theorem d_M_sayNumber_79 : decode b_M_sayNumber 79 = .ok (.ldiv, 1) := by decide +kernel
theorem d_M_sayNumber_80 : decode b_M_sayNumber 80 = .ok (.lstore 5, 2) := by decide +kernel
theorem d_M_sayNumber_82 : decode b_M_sayNumber 82 = .ok (.goto (-32), 3) := by decide +kernel
theorem d_M_sayNumber_85 : decode b_M_sayNumber 85 = .ok (.return_, 1) := by decide +kernel
theorem d_M_exportByte_0 : decode b_M_exportByte 0 = .ok (.aload_n 0, 1) := by decide +kernel
theorem d_M_exportByte_1 : decode b_M_exportByte 1 = .ok (.iconst 1, 1) := by decide +kernel
theorem d_M_exportByte_2 : decode b_M_exportByte 2 = .ok (.aload_n 0, 1) := by decide +kernel
theorem d_M_exportByte_3 : decode b_M_exportByte 3 = .ok (.getfield 23, 3) := by decide +kernel
theorem d_M_exportByte_6 : decode b_M_exportByte 6 = .ok (.ifCond .ne (7), 3) := by decide +kernel
theorem d_M_exportByte_9 : decode b_M_exportByte 9 = .ok (.iconst 1, 1) := by decide +kernel
theorem d_M_exportByte_10 : decode b_M_exportByte 10 = .ok (.goto (4), 3) := by decide +kernel
theorem d_M_exportByte_13 : decode b_M_exportByte 13 = .ok (.iconst 0, 1) := by decide +kernel
theorem d_M_exportByte_14 : decode b_M_exportByte 14 = .ok (.invokevirtual 137, 3) := by decide +kernel
theorem d_M_exportByte_17 : decode b_M_exportByte 17 = .ok (.ifCond .eq (5), 3) := by decide +kernel
theorem d_M_exportByte_20 : decode b_M_exportByte 20 = .ok (.iconst 0, 1) := by decide +kernel
theorem d_M_exportByte_21 : decode b_M_exportByte 21 = .ok (.ireturn, 1) := by decide +kernel
theorem d_M_exportByte_22 : decode b_M_exportByte 22 = .ok (.aload_n 0, 1) := by decide +kernel
theorem d_M_exportByte_23 : decode b_M_exportByte 23 = .ok (.iconst 0, 1) := by decide +kernel
theorem d_M_exportByte_24 : decode b_M_exportByte 24 = .ok (.putfield 172, 3) := by decide +kernel
theorem d_M_exportByte_27 : decode b_M_exportByte 27 = .ok (.aload_n 0, 1) := by decide +kernel
theorem d_M_exportByte_28 : decode b_M_exportByte 28 = .ok (.iload_n 3, 1) := by decide +kernel
theorem d_M_exportByte_29 : decode b_M_exportByte 29 = .ok (.putfield 175, 3) := by decide +kernel
theorem d_M_exportByte_32 : decode b_M_exportByte 32 = .ok (.aload_n 0, 1) := by decide +kernel
theorem d_M_exportByte_33 : decode b_M_exportByte 33 = .ok (.iconst (-1), 1) := by decide +kernel
theorem d_M_exportByte_34 : decode b_M_exportByte 34 = .ok (.putfield 178, 3) := by decide +kernel
theorem d_M_exportByte_37 : decode b_M_exportByte 37 = .ok (.iconst 1, 1) := by decide +kernel
theorem d_M_exportByte_38 : decode b_M_exportByte 38 = .ok (.istore 4, 2) := by decide +kernel
theorem d_M_exportByte_40 : decode b_M_exportByte 40 = .ok (.iload 4, 2) := by decide +kernel
theorem d_M_exportByte_42 : decode b_M_exportByte 42 = .ok (.aload_n 0, 1) := by decide +kernel
theorem d_M_exportByte_43 : decode b_M_exportByte 43 = .ok (.invokevirtual 149, 3) := by decide +kernel
theorem d_M_exportByte_46 : decode b_M_exportByte 46 = .ok (.if_icmp .gt (122), 3) := by decide +kernel
theorem d_M_exportByte_49 : decode b_M_exportByte 49 = .ok (.iload 4, 2) := by decide +kernel
theorem d_M_exportByte_51 : decode b_M_exportByte 51 = .ok (.iload_n 1, 1) := by decide +kernel
theorem d_M_exportByte_52 : decode b_M_exportByte 52 = .ok (.if_icmp .lt (110), 3) := by decide +kernel
theorem d_M_exportByte_55 : decode b_M_exportByte 55 = .ok (.iload 4, 2) := by decide +kernel
theorem d_M_exportByte_57 : decode b_M_exportByte 57 = .ok (.iload_n 2, 1) := by decide +kernel
theorem d_M_exportByte_58 : decode b_M_exportByte 58 = .ok (.if_icmp .le (6), 3) := by decide +kernel
theorem d_M_exportByte_61 : decode b_M_exportByte 61 = .ok (.goto (101), 3) := by decide +kernel
theorem d_M_exportByte_64 : decode b_M_exportByte 64 = .ok (.aload_n 0, 1) := by decide +kernel
theorem d_M_exportByte_65 : decode b_M_exportByte 65 = .ok (.iload 4, 2) := by decide +kernel
theorem d_M_exportByte_67 : decode b_M_exportByte 67 = .ok (.invokevirtual 127, 3) := by decide +kernel
theorem d_M_exportByte_70 : decode b_M_exportByte 70 = .ok (.istore 5, 2) := by decide +kernel
theorem d_M_exportByte_72 : decode b_M_exportByte 72 = .ok (.aload_n 0, 1) := by decide +kernel
theorem d_M_exportByte_73 : decode b_M_exportByte 73 = .ok (.iload 4, 2) := by decide +kernel
theorem d_M_exportByte_75 : decode b_M_exportByte 75 = .ok (.i2l, 1) := by decide +kernel
theorem d_M_exportByte_76 : decode b_M_exportByte 76 = .ok (.invokevirtual 191, 3) := by decide +kernel
theorem d_M_exportByte_79 : decode b_M_exportByte 79 = .ok (.aload_n 0, 1) := by decide +kernel
theorem d_M_exportByte_80 : decode b_M_exportByte 80 = .ok (.bipush 32, 2) := by decide +kernel
theorem d_M_exportByte_82 : decode b_M_exportByte 82 = .ok (.invokevirtual 181, 3) := by decide +kernel
theorem d_M_exportByte_85 : decode b_M_exportByte 85 = .ok (.aload_n 0, 1) := by decide +kernel
theorem d_M_exportByte_86 : decode b_M_exportByte 86 = .ok (.aload_n 0, 1) := by decide +kernel
theorem d_M_exportByte_87 : decode b_M_exportByte 87 = .ok (.iload 5, 2) := by decide +kernel
theorem d_M_exportByte_89 : decode b_M_exportByte 89 = .ok (.iconst 0, 1) := by decide +kernel
theorem d_M_exportByte_90 : decode b_M_exportByte 90 = .ok (.invokevirtual 121, 3) := by decide +kernel
theorem d_M_exportByte_93 : decode b_M_exportByte 93 = .ok (.i2l, 1) := by decide +kernel
theorem d_M_exportByte_94 : decode b_M_exportByte 94 = .ok (.invokevirtual 191, 3) := by decide +kernel
theorem d_M_exportByte_97 : decode b_M_exportByte 97 = .ok (.aload_n 0, 1) := by decide +kernel
theorem d_M_exportByte_98 : decode b_M_exportByte 98 = .ok (.bipush 32, 2) := by decide +kernel
theorem d_M_exportByte_100 : decode b_M_exportByte 100 = .ok (.invokevirtual 181, 3) := by decide +kernel
theorem d_M_exportByte_103 : decode b_M_exportByte 103 = .ok (.aload_n 0, 1) := by decide +kernel
theorem d_M_exportByte_104 : decode b_M_exportByte 104 = .ok (.aload_n 0, 1) := by decide +kernel
theorem d_M_exportByte_105 : decode b_M_exportByte 105 = .ok (.iload 5, 2) := by decide +kernel
theorem d_M_exportByte_107 : decode b_M_exportByte 107 = .ok (.invokevirtual 160, 3) := by decide +kernel
theorem d_M_exportByte_110 : decode b_M_exportByte 110 = .ok (.i2l, 1) := by decide +kernel
theorem d_M_exportByte_111 : decode b_M_exportByte 111 = .ok (.invokevirtual 191, 3) := by decide +kernel
theorem d_M_exportByte_114 : decode b_M_exportByte 114 = .ok (.aload_n 0, 1) := by decide +kernel
theorem d_M_exportByte_115 : decode b_M_exportByte 115 = .ok (.bipush 32, 2) := by decide +kernel
theorem d_M_exportByte_117 : decode b_M_exportByte 117 = .ok (.invokevirtual 181, 3) := by decide +kernel
theorem d_M_exportByte_120 : decode b_M_exportByte 120 = .ok (.aload_n 0, 1) := by decide +kernel
theorem d_M_exportByte_121 : decode b_M_exportByte 121 = .ok (.aload_n 0, 1) := by decide +kernel
theorem d_M_exportByte_122 : decode b_M_exportByte 122 = .ok (.iload 5, 2) := by decide +kernel
theorem d_M_exportByte_124 : decode b_M_exportByte 124 = .ok (.iconst 2, 1) := by decide +kernel
theorem d_M_exportByte_125 : decode b_M_exportByte 125 = .ok (.invokevirtual 121, 3) := by decide +kernel
theorem d_M_exportByte_128 : decode b_M_exportByte 128 = .ok (.bipush 26, 2) := by decide +kernel
theorem d_M_exportByte_130 : decode b_M_exportByte 130 = .ok (.iushr, 1) := by decide +kernel
theorem d_M_exportByte_131 : decode b_M_exportByte 131 = .ok (.i2l, 1) := by decide +kernel
theorem d_M_exportByte_132 : decode b_M_exportByte 132 = .ok (.invokevirtual 191, 3) := by decide +kernel
theorem d_M_exportByte_135 : decode b_M_exportByte 135 = .ok (.aload_n 0, 1) := by decide +kernel
theorem d_M_exportByte_136 : decode b_M_exportByte 136 = .ok (.iload 4, 2) := by decide +kernel
theorem d_M_exportByte_138 : decode b_M_exportByte 138 = .ok (.invokevirtual 152, 3) := by decide +kernel
theorem d_M_exportByte_141 : decode b_M_exportByte 141 = .ok (.ifCond .le (15), 3) := by decide +kernel
theorem d_M_exportByte_144 : decode b_M_exportByte 144 = .ok (.aload_n 0, 1) := by decide +kernel
theorem d_M_exportByte_145 : decode b_M_exportByte 145 = .ok (.bipush 32, 2) := by decide +kernel
theorem d_M_exportByte_147 : decode b_M_exportByte 147 = .ok (.invokevirtual 181, 3) := by decide +kernel
theorem d_M_exportByte_150 : decode b_M_exportByte 150 = .ok (.aload_n 0, 1) := by decide +kernel
theorem d_M_exportByte_151 : decode b_M_exportByte 151 = .ok (.bipush 86, 2) := by decide +kernel
theorem d_M_exportByte_153 : decode b_M_exportByte 153 = .ok (.invokevirtual 181, 3) := by decide +kernel
theorem d_M_exportByte_156 : decode b_M_exportByte 156 = .ok (.aload_n 0, 1) := by decide +kernel
theorem d_M_exportByte_157 : decode b_M_exportByte 157 = .ok (.bipush 10, 2) := by decide +kernel
theorem d_M_exportByte_159 : decode b_M_exportByte 159 = .ok (.invokevirtual 181, 3) := by decide +kernel
theorem d_M_exportByte_162 : decode b_M_exportByte 162 = .ok (.iinc 4 1, 3) := by decide +kernel
theorem d_M_exportByte_165 : decode b_M_exportByte 165 = .ok (.goto (-125), 3) := by decide +kernel
theorem d_M_exportByte_168 : decode b_M_exportByte 168 = .ok (.aload_n 0, 1) := by decide +kernel
theorem d_M_exportByte_169 : decode b_M_exportByte 169 = .ok (.getfield 178, 3) := by decide +kernel
theorem d_M_exportByte_172 : decode b_M_exportByte 172 = .ok (.ireturn, 1) := by decide +kernel
theorem d_M_setProduct_0 : decode b_M_setProduct 0 = .ok (.aload_n 0, 1) := by decide +kernel
theorem d_M_setProduct_1 : decode b_M_setProduct 1 = .ok (.iconst 1, 1) := by decide +kernel
theorem d_M_setProduct_2 : decode b_M_setProduct 2 = .ok (.iload_n 1, 1) := by decide +kernel
theorem d_M_setProduct_3 : decode b_M_setProduct 3 = .ok (.iconst 0, 1) := by decide +kernel
theorem d_M_setProduct_4 : decode b_M_setProduct 4 = .ok (.bipush 39, 2) := by decide +kernel
theorem d_M_setProduct_6 : decode b_M_setProduct 6 = .ok (.invokestatic 130, 3) := by decide +kernel
theorem d_M_setProduct_9 : decode b_M_setProduct 9 = .ok (.ifCond .ne (7), 3) := by decide +kernel
theorem d_M_setProduct_12 : decode b_M_setProduct 12 = .ok (.iconst 1, 1) := by decide +kernel
theorem d_M_setProduct_13 : decode b_M_setProduct 13 = .ok (.goto (4), 3) := by decide +kernel
theorem d_M_setProduct_16 : decode b_M_setProduct 16 = .ok (.iconst 0, 1) := by decide +kernel
theorem d_M_setProduct_17 : decode b_M_setProduct 17 = .ok (.invokevirtual 137, 3) := by decide +kernel
theorem d_M_setProduct_20 : decode b_M_setProduct 20 = .ok (.ifCond .ne (10), 3) := by decide +kernel
theorem d_M_setProduct_23 : decode b_M_setProduct 23 = .ok (.aload_n 0, 1) := by decide +kernel
theorem d_M_setProduct_24 : decode b_M_setProduct 24 = .ok (.getfield 20, 3) := by decide +kernel
theorem d_M_setProduct_27 : decode b_M_setProduct 27 = .ok (.iload_n 1, 1) := by decide +kernel
theorem d_M_setProduct_28 : decode b_M_setProduct 28 = .ok (.iload_n 2, 1) := by decide +kernel
theorem d_M_setProduct_29 : decode b_M_setProduct 29 = .ok (.bastore, 1) := by decide +kernel
theorem d_M_setProduct_30 : decode b_M_setProduct 30 = .ok (.return_, 1) := by decide +kernel
theorem d_M_cutAfter_0 : decode b_M_cutAfter 0 = .ok (.aload_n 0, 1) := by decide +kernel
theorem d_M_cutAfter_1 : decode b_M_cutAfter 1 = .ok (.iconst 1, 1) := by decide +kernel
theorem d_M_cutAfter_2 : decode b_M_cutAfter 2 = .ok (.iload_n 1, 1) := by decide +kernel
theorem d_M_cutAfter_3 : decode b_M_cutAfter 3 = .ok (.iconst 0, 1) := by decide +kernel
theorem d_M_cutAfter_4 : decode b_M_cutAfter 4 = .ok (.sipush 300, 3) := by decide +kernel
theorem d_M_cutAfter_7 : decode b_M_cutAfter 7 = .ok (.invokestatic 130, 3) := by decide +kernel
theorem d_M_cutAfter_10 : decode b_M_cutAfter 10 = .ok (.ifCond .ne (7), 3) := by decide +kernel
theorem d_M_cutAfter_13 : decode b_M_cutAfter 13 = .ok (.iconst 1, 1) := by decide +kernel
theorem d_M_cutAfter_14 : decode b_M_cutAfter 14 = .ok (.goto (4), 3) := by decide +kernel
theorem d_M_cutAfter_17 : decode b_M_cutAfter 17 = .ok (.iconst 0, 1) := by decide +kernel
theorem d_M_cutAfter_18 : decode b_M_cutAfter 18 = .ok (.invokevirtual 137, 3) := by decide +kernel
theorem d_M_cutAfter_21 : decode b_M_cutAfter 21 = .ok (.ifCond .ne (8), 3) := by decide +kernel
theorem d_M_cutAfter_24 : decode b_M_cutAfter 24 = .ok (.aload_n 0, 1) := by decide +kernel
theorem d_M_cutAfter_25 : decode b_M_cutAfter 25 = .ok (.iload_n 1, 1) := by decide +kernel
theorem d_M_cutAfter_26 : decode b_M_cutAfter 26 = .ok (.putfield 27, 3) := by decide +kernel
theorem d_M_cutAfter_29 : decode b_M_cutAfter 29 = .ok (.return_, 1) := by decide +kernel
theorem d_M_crash_0 : decode b_M_crash 0 = .ok (.aload_n 0, 1) := by decide +kernel
theorem d_M_crash_1 : decode b_M_crash 1 = .ok (.iconst 0, 1) := by decide +kernel
theorem d_M_crash_2 : decode b_M_crash 2 = .ok (.putfield 49, 3) := by decide +kernel
theorem d_M_crash_5 : decode b_M_crash 5 = .ok (.aload_n 0, 1) := by decide +kernel
theorem d_M_crash_6 : decode b_M_crash 6 = .ok (.invokevirtual 72, 3) := by decide +kernel
theorem d_M_crash_9 : decode b_M_crash 9 = .ok (.return_, 1) := by decide +kernel
theorem d_M_latest_0 : decode b_M_latest 0 = .ok (.iconst (-1), 1) := by decide +kernel
theorem d_M_latest_1 : decode b_M_latest 1 = .ok (.istore_n 2, 1) := by decide +kernel
theorem d_M_latest_2 : decode b_M_latest 2 = .ok (.iconst 0, 1) := by decide +kernel
theorem d_M_latest_3 : decode b_M_latest 3 = .ok (.istore_n 3, 1) := by decide +kernel
theorem d_M_latest_4 : decode b_M_latest 4 = .ok (.iload_n 3, 1) := by decide +kernel
theorem d_M_latest_5 : decode b_M_latest 5 = .ok (.bipush 32, 2) := by decide +kernel
theorem d_M_latest_7 : decode b_M_latest 7 = .ok (.if_icmp .ge (67), 3) := by decide +kernel
theorem d_M_latest_10 : decode b_M_latest 10 = .ok (.aload_n 0, 1) := by decide +kernel
theorem d_M_latest_11 : decode b_M_latest 11 = .ok (.iload_n 3, 1) := by decide +kernel
theorem d_M_latest_12 : decode b_M_latest 12 = .ok (.invokevirtual 163, 3) := by decide +kernel
theorem d_M_latest_15 : decode b_M_latest 15 = .ok (.ifCond .eq (53), 3) := by decide +kernel
theorem d_M_latest_18 : decode b_M_latest 18 = .ok (.iload_n 1, 1) := by decide +kernel
theorem d_M_latest_19 : decode b_M_latest 19 = .ok (.ifCond .lt (18), 3) := by decide +kernel
theorem d_M_latest_22 : decode b_M_latest 22 = .ok (.aload_n 0, 1) := by decide +kernel
theorem d_M_latest_23 : decode b_M_latest 23 = .ok (.getfield 7, 3) := by decide +kernel
theorem d_M_latest_26 : decode b_M_latest 26 = .ok (.bipush 16, 2) := by decide +kernel
theorem d_M_latest_28 : decode b_M_latest 28 = .ok (.iload_n 3, 1) := by decide +kernel
theorem d_M_latest_29 : decode b_M_latest 29 = .ok (.imul, 1) := by decide +kernel
theorem d_M_latest_30 : decode b_M_latest 30 = .ok (.iaload, 1) := by decide +kernel
theorem d_M_latest_31 : decode b_M_latest 31 = .ok (.iconst 4, 1) := by decide +kernel
theorem d_M_latest_32 : decode b_M_latest 32 = .ok (.idiv, 1) := by decide +kernel
theorem d_M_latest_33 : decode b_M_latest 33 = .ok (.iload_n 1, 1) := by decide +kernel
theorem d_M_latest_34 : decode b_M_latest 34 = .ok (.if_icmp .ne (34), 3) := by decide +kernel
theorem d_M_latest_37 : decode b_M_latest 37 = .ok (.iload_n 2, 1) := by decide +kernel
theorem d_M_latest_38 : decode b_M_latest 38 = .ok (.ifCond .lt (28), 3) := by decide +kernel
theorem d_M_latest_41 : decode b_M_latest 41 = .ok (.aload_n 0, 1) := by decide +kernel
theorem d_M_latest_42 : decode b_M_latest 42 = .ok (.getfield 7, 3) := by decide +kernel
theorem d_M_latest_45 : decode b_M_latest 45 = .ok (.bipush 16, 2) := by decide +kernel
theorem d_M_latest_47 : decode b_M_latest 47 = .ok (.iload_n 3, 1) := by decide +kernel
theorem d_M_latest_48 : decode b_M_latest 48 = .ok (.imul, 1) := by decide +kernel
theorem d_M_latest_49 : decode b_M_latest 49 = .ok (.iconst 1, 1) := by decide +kernel
theorem d_M_latest_50 : decode b_M_latest 50 = .ok (.iadd, 1) := by decide +kernel
theorem d_M_latest_51 : decode b_M_latest 51 = .ok (.iaload, 1) := by decide +kernel
theorem d_M_latest_52 : decode b_M_latest 52 = .ok (.aload_n 0, 1) := by decide +kernel
theorem d_M_latest_53 : decode b_M_latest 53 = .ok (.getfield 7, 3) := by decide +kernel
theorem d_M_latest_56 : decode b_M_latest 56 = .ok (.bipush 16, 2) := by decide +kernel
theorem d_M_latest_58 : decode b_M_latest 58 = .ok (.iload_n 2, 1) := by decide +kernel
theorem d_M_latest_59 : decode b_M_latest 59 = .ok (.imul, 1) := by decide +kernel
theorem d_M_latest_60 : decode b_M_latest 60 = .ok (.iconst 1, 1) := by decide +kernel
theorem d_M_latest_61 : decode b_M_latest 61 = .ok (.iadd, 1) := by decide +kernel
theorem d_M_latest_62 : decode b_M_latest 62 = .ok (.iaload, 1) := by decide +kernel
theorem d_M_latest_63 : decode b_M_latest 63 = .ok (.if_icmp .le (5), 3) := by decide +kernel
theorem d_M_latest_66 : decode b_M_latest 66 = .ok (.iload_n 3, 1) := by decide +kernel
theorem d_M_latest_67 : decode b_M_latest 67 = .ok (.istore_n 2, 1) := by decide +kernel
theorem d_M_latest_68 : decode b_M_latest 68 = .ok (.iinc 3 1, 3) := by decide +kernel
theorem d_M_latest_71 : decode b_M_latest 71 = .ok (.goto (-67), 3) := by decide +kernel
theorem d_M_latest_74 : decode b_M_latest 74 = .ok (.iload_n 2, 1) := by decide +kernel
theorem d_M_latest_75 : decode b_M_latest 75 = .ok (.ireturn, 1) := by decide +kernel
theorem d_M_mount_0 : decode b_M_mount 0 = .ok (.aload_n 0, 1) := by decide +kernel
theorem d_M_mount_1 : decode b_M_mount 1 = .ok (.iconst 0, 1) := by decide +kernel
theorem d_M_mount_2 : decode b_M_mount 2 = .ok (.putfield 49, 3) := by decide +kernel
theorem d_M_mount_5 : decode b_M_mount 5 = .ok (.aload_n 0, 1) := by decide +kernel
theorem d_M_mount_6 : decode b_M_mount 6 = .ok (.invokevirtual 72, 3) := by decide +kernel
theorem d_M_mount_9 : decode b_M_mount 9 = .ok (.aload_n 0, 1) := by decide +kernel
theorem d_M_mount_10 : decode b_M_mount 10 = .ok (.iconst 1, 1) := by decide +kernel
theorem d_M_mount_11 : decode b_M_mount 11 = .ok (.putfield 23, 3) := by decide +kernel
theorem d_M_mount_14 : decode b_M_mount 14 = .ok (.aload_n 0, 1) := by decide +kernel
theorem d_M_mount_15 : decode b_M_mount 15 = .ok (.iconst (-1), 1) := by decide +kernel
theorem d_M_mount_16 : decode b_M_mount 16 = .ok (.invokevirtual 195, 3) := by decide +kernel
theorem d_M_mount_19 : decode b_M_mount 19 = .ok (.istore_n 1, 1) := by decide +kernel
theorem d_M_mount_20 : decode b_M_mount 20 = .ok (.aload_n 0, 1) := by decide +kernel
theorem d_M_mount_21 : decode b_M_mount 21 = .ok (.iload_n 1, 1) := by decide +kernel
theorem d_M_mount_22 : decode b_M_mount 22 = .ok (.ifCond .ge (7), 3) := by decide +kernel
theorem d_M_mount_25 : decode b_M_mount 25 = .ok (.iconst 0, 1) := by decide +kernel
theorem d_M_mount_26 : decode b_M_mount 26 = .ok (.goto (14), 3) := by decide +kernel
theorem d_M_mount_29 : decode b_M_mount 29 = .ok (.aload_n 0, 1) := by decide +kernel
theorem d_M_mount_30 : decode b_M_mount 30 = .ok (.getfield 7, 3) := by decide +kernel
theorem d_M_mount_33 : decode b_M_mount 33 = .ok (.bipush 16, 2) := by decide +kernel
theorem d_M_mount_35 : decode b_M_mount 35 = .ok (.iload_n 1, 1) := by decide +kernel
theorem d_M_mount_36 : decode b_M_mount 36 = .ok (.imul, 1) := by decide +kernel
theorem d_M_mount_37 : decode b_M_mount 37 = .ok (.iconst 1, 1) := by decide +kernel
theorem d_M_mount_38 : decode b_M_mount 38 = .ok (.iadd, 1) := by decide +kernel
theorem d_M_mount_39 : decode b_M_mount 39 = .ok (.iaload, 1) := by decide +kernel
theorem d_M_mount_40 : decode b_M_mount 40 = .ok (.putfield 55, 3) := by decide +kernel
theorem d_M_mount_43 : decode b_M_mount 43 = .ok (.aload_n 0, 1) := by decide +kernel
theorem d_M_mount_44 : decode b_M_mount 44 = .ok (.iload_n 1, 1) := by decide +kernel
theorem d_M_mount_45 : decode b_M_mount 45 = .ok (.ifCond .ge (7), 3) := by decide +kernel
theorem d_M_mount_48 : decode b_M_mount 48 = .ok (.iconst (-1), 1) := by decide +kernel
theorem d_M_mount_49 : decode b_M_mount 49 = .ok (.goto (6), 3) := by decide +kernel
theorem d_M_mount_52 : decode b_M_mount 52 = .ok (.iload_n 1, 1) := by decide +kernel
theorem d_M_mount_53 : decode b_M_mount 53 = .ok (.iconst 4, 1) := by decide +kernel
theorem d_M_mount_54 : decode b_M_mount 54 = .ok (.idiv, 1) := by decide +kernel
theorem d_M_mount_55 : decode b_M_mount 55 = .ok (.putfield 40, 3) := by decide +kernel
theorem d_M_mount_58 : decode b_M_mount 58 = .ok (.iconst 1, 1) := by decide +kernel
theorem d_M_mount_59 : decode b_M_mount 59 = .ok (.istore_n 2, 1) := by decide +kernel
theorem d_M_mount_60 : decode b_M_mount 60 = .ok (.iconst 0, 1) := by decide +kernel
theorem d_M_mount_61 : decode b_M_mount 61 = .ok (.istore_n 3, 1) := by decide +kernel
theorem d_M_mount_62 : decode b_M_mount 62 = .ok (.iload_n 3, 1) := by decide +kernel
theorem d_M_mount_63 : decode b_M_mount 63 = .ok (.bipush 16, 2) := by decide +kernel
theorem d_M_mount_65 : decode b_M_mount 65 = .ok (.if_icmp .ge (134), 3) := by decide +kernel
theorem d_M_mount_68 : decode b_M_mount 68 = .ok (.iload_n 2, 1) := by decide +kernel
theorem d_M_mount_69 : decode b_M_mount 69 = .ok (.ifCond .eq (130), 3) := by decide +kernel
theorem d_M_mount_72 : decode b_M_mount 72 = .ok (.aload_n 0, 1) := by decide +kernel
theorem d_M_mount_73 : decode b_M_mount 73 = .ok (.iload_n 3, 1) := by decide +kernel
theorem d_M_mount_74 : decode b_M_mount 74 = .ok (.invokevirtual 195, 3) := by decide +kernel
theorem d_M_mount_77 : decode b_M_mount 77 = .ok (.istore 4, 2) := by decide +kernel
theorem d_M_mount_79 : decode b_M_mount 79 = .ok (.iload 4, 2) := by decide +kernel
theorem d_M_mount_81 : decode b_M_mount 81 = .ok (.ifCond .ge (6), 3) := by decide +kernel
theorem d_M_mount_84 : decode b_M_mount 84 = .ok (.goto (115), 3) := by decide +kernel
theorem d_M_mount_87 : decode b_M_mount 87 = .ok (.aload_n 0, 1) := by decide +kernel
theorem d_M_mount_88 : decode b_M_mount 88 = .ok (.getfield 34, 3) := by decide +kernel
theorem d_M_mount_91 : decode b_M_mount 91 = .ok (.iload_n 3, 1) := by decide +kernel
theorem d_M_mount_92 : decode b_M_mount 92 = .ok (.iload 4, 2) := by decide +kernel
theorem d_M_mount_94 : decode b_M_mount 94 = .ok (.iastore, 1) := by decide +kernel
theorem d_M_mount_95 : decode b_M_mount 95 = .ok (.aload_n 0, 1) := by decide +kernel
theorem d_M_mount_96 : decode b_M_mount 96 = .ok (.getfield 37, 3) := by decide +kernel
theorem d_M_mount_99 : decode b_M_mount 99 = .ok (.iload_n 3, 1) := by decide +kernel
theorem d_M_mount_100 : decode b_M_mount 100 = .ok (.aload_n 0, 1) := by decide +kernel
theorem d_M_mount_101 : decode b_M_mount 101 = .ok (.getfield 7, 3) := by decide +kernel
theorem d_M_mount_104 : decode b_M_mount 104 = .ok (.bipush 16, 2) := by decide +kernel
theorem d_M_mount_106 : decode b_M_mount 106 = .ok (.iload 4, 2) := by decide +kernel
theorem d_M_mount_108 : decode b_M_mount 108 = .ok (.imul, 1) := by decide +kernel
theorem d_M_mount_109 : decode b_M_mount 109 = .ok (.iaload, 1) := by decide +kernel
theorem d_M_mount_110 : decode b_M_mount 110 = .ok (.iconst 4, 1) := by decide +kernel
theorem d_M_mount_111 : decode b_M_mount 111 = .ok (.irem, 1) := by decide +kernel
theorem d_M_mount_112 : decode b_M_mount 112 = .ok (.iastore, 1) := by decide +kernel
theorem d_M_mount_113 : decode b_M_mount 113 = .ok (.iconst 0, 1) := by decide +kernel
theorem d_M_mount_114 : decode b_M_mount 114 = .ok (.istore 5, 2) := by decide +kernel
theorem d_M_mount_116 : decode b_M_mount 116 = .ok (.iload 5, 2) := by decide +kernel
theorem d_M_mount_118 : decode b_M_mount 118 = .ok (.iconst 4, 1) := by decide +kernel
theorem d_M_mount_119 : decode b_M_mount 119 = .ok (.aload_n 0, 1) := by decide +kernel
theorem d_M_mount_120 : decode b_M_mount 120 = .ok (.getfield 37, 3) := by decide +kernel
theorem d_M_mount_123 : decode b_M_mount 123 = .ok (.iload_n 3, 1) := by decide +kernel
theorem d_M_mount_124 : decode b_M_mount 124 = .ok (.iaload, 1) := by decide +kernel
theorem d_M_mount_125 : decode b_M_mount 125 = .ok (.imul, 1) := by decide +kernel
theorem d_M_mount_126 : decode b_M_mount 126 = .ok (.if_icmp .ge (36), 3) := by decide +kernel
theorem d_M_mount_129 : decode b_M_mount 129 = .ok (.aload_n 0, 1) := by decide +kernel
theorem d_M_mount_130 : decode b_M_mount 130 = .ok (.getfield 31, 3) := by decide +kernel
theorem d_M_mount_133 : decode b_M_mount 133 = .ok (.bipush 12, 2) := by decide +kernel
theorem d_M_mount_135 : decode b_M_mount 135 = .ok (.iload_n 3, 1) := by decide +kernel
theorem d_M_mount_136 : decode b_M_mount 136 = .ok (.imul, 1) := by decide +kernel
theorem d_M_mount_137 : decode b_M_mount 137 = .ok (.iload 5, 2) := by decide +kernel
theorem d_M_mount_139 : decode b_M_mount 139 = .ok (.iadd, 1) := by decide +kernel
theorem d_M_mount_140 : decode b_M_mount 140 = .ok (.aload_n 0, 1) := by decide +kernel
theorem d_M_mount_141 : decode b_M_mount 141 = .ok (.getfield 7, 3) := by decide +kernel
theorem d_M_mount_144 : decode b_M_mount 144 = .ok (.bipush 16, 2) := by decide +kernel
theorem d_M_mount_146 : decode b_M_mount 146 = .ok (.iload 4, 2) := by decide +kernel
theorem d_M_mount_148 : decode b_M_mount 148 = .ok (.imul, 1) := by decide +kernel
theorem d_M_mount_149 : decode b_M_mount 149 = .ok (.iconst 2, 1) := by decide +kernel
theorem d_M_mount_150 : decode b_M_mount 150 = .ok (.iadd, 1) := by decide +kernel
theorem d_M_mount_151 : decode b_M_mount 151 = .ok (.iload 5, 2) := by decide +kernel
theorem d_M_mount_153 : decode b_M_mount 153 = .ok (.iadd, 1) := by decide +kernel
