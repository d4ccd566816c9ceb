theorem d_M_move_47 : decode b_M_move 47 = .ok (.bipush 14, 2) := by decide +kernel
theorem d_M_move_49 : decode b_M_move 49 = .ok (.if_icmp .ge (28), 3) := by decide +kernel
theorem d_M_move_52 : decode b_M_move 52 = .ok (.aload_n 0, 1) := by decide +kernel
theorem d_M_move_53 : decode b_M_move 53 = .ok (.getfield 43, 3) := by decide +kernel
theorem d_M_move_56 : decode b_M_move 56 = .ok (.iload 4, 2) := by decide +kernel
theorem d_M_move_58 : decode b_M_move 58 = .ok (.aload_n 0, 1) := by decide +kernel
theorem d_M_move_59 : decode b_M_move 59 = .ok (.getfield 7, 3) := by decide +kernel
theorem d_M_move_62 : decode b_M_move 62 = .ok (.bipush 16, 2) := by decide +kernel
theorem d_M_move_64 : decode b_M_move 64 = .ok (.iload_n 2, 1) := by decide +kernel
theorem d_M_move_65 : decode b_M_move 65 = .ok (.imul, 1) := by decide +kernel
theorem d_M_move_66 : decode b_M_move 66 = .ok (.iload 4, 2) := by decide +kernel
theorem d_M_move_68 : decode b_M_move 68 = .ok (.iadd, 1) := by decide +kernel
theorem d_M_move_69 : decode b_M_move 69 = .ok (.iaload, 1) := by decide +kernel
theorem d_M_move_70 : decode b_M_move 70 = .ok (.iastore, 1) := by decide +kernel
theorem d_M_move_71 : decode b_M_move 71 = .ok (.iinc 4 1, 3) := by decide +kernel
theorem d_M_move_74 : decode b_M_move 74 = .ok (.goto (-29), 3) := by decide +kernel
theorem d_M_move_77 : decode b_M_move 77 = .ok (.aload_n 0, 1) := by decide +kernel
theorem d_M_move_78 : decode b_M_move 78 = .ok (.aload_n 0, 1) := by decide +kernel
theorem d_M_move_79 : decode b_M_move 79 = .ok (.aload_n 0, 1) := by decide +kernel
theorem d_M_move_80 : decode b_M_move 80 = .ok (.getfield 40, 3) := by decide +kernel
theorem d_M_move_83 : decode b_M_move 83 = .ok (.invokevirtual 95, 3) := by decide +kernel
theorem d_M_move_86 : decode b_M_move 86 = .ok (.iload_n 3, 1) := by decide +kernel
theorem d_M_move_87 : decode b_M_move 87 = .ok (.invokevirtual 114, 3) := by decide +kernel
theorem d_M_move_90 : decode b_M_move 90 = .ok (.ifCond .ne (5), 3) := by decide +kernel
theorem d_M_move_93 : decode b_M_move 93 = .ok (.iconst 0, 1) := by decide +kernel
theorem d_M_move_94 : decode b_M_move 94 = .ok (.ireturn, 1) := by decide +kernel
theorem d_M_move_95 : decode b_M_move 95 = .ok (.iinc 2 1, 3) := by decide +kernel
theorem d_M_move_98 : decode b_M_move 98 = .ok (.goto (-94), 3) := by decide +kernel
theorem d_M_move_101 : decode b_M_move 101 = .ok (.aload_n 0, 1) := by decide +kernel
theorem d_M_move_102 : decode b_M_move 102 = .ok (.iload_n 1, 1) := by decide +kernel
theorem d_M_move_103 : decode b_M_move 103 = .ok (.invokevirtual 111, 3) := by decide +kernel
theorem d_M_move_106 : decode b_M_move 106 = .ok (.ireturn, 1) := by decide +kernel
theorem d_M_makeRoom_0 : decode b_M_makeRoom 0 = .ok (.aload_n 0, 1) := by decide +kernel
theorem d_M_makeRoom_1 : decode b_M_makeRoom 1 = .ok (.getfield 40, 3) := by decide +kernel
theorem d_M_makeRoom_4 : decode b_M_makeRoom 4 = .ok (.ifCond .lt (28), 3) := by decide +kernel
theorem d_M_makeRoom_7 : decode b_M_makeRoom 7 = .ok (.aload_n 0, 1) := by decide +kernel
theorem d_M_makeRoom_8 : decode b_M_makeRoom 8 = .ok (.getfield 16, 3) := by decide +kernel
theorem d_M_makeRoom_11 : decode b_M_makeRoom 11 = .ok (.aload_n 0, 1) := by decide +kernel
theorem d_M_makeRoom_12 : decode b_M_makeRoom 12 = .ok (.getfield 40, 3) := by decide +kernel
theorem d_M_makeRoom_15 : decode b_M_makeRoom 15 = .ok (.baload, 1) := by decide +kernel
theorem d_M_makeRoom_16 : decode b_M_makeRoom 16 = .ok (.ifCond .ne (16), 3) := by decide +kernel
theorem d_M_makeRoom_19 : decode b_M_makeRoom 19 = .ok (.aload_n 0, 1) := by decide +kernel
theorem d_M_makeRoom_20 : decode b_M_makeRoom 20 = .ok (.aload_n 0, 1) := by decide +kernel
theorem d_M_makeRoom_21 : decode b_M_makeRoom 21 = .ok (.getfield 40, 3) := by decide +kernel
theorem d_M_makeRoom_24 : decode b_M_makeRoom 24 = .ok (.invokevirtual 95, 3) := by decide +kernel
theorem d_M_makeRoom_27 : decode b_M_makeRoom 27 = .ok (.ifCond .lt (5), 3) := by decide +kernel
theorem d_M_makeRoom_30 : decode b_M_makeRoom 30 = .ok (.iconst 0, 1) := by decide +kernel
theorem d_M_makeRoom_31 : decode b_M_makeRoom 31 = .ok (.ireturn, 1) := by decide +kernel
theorem d_M_makeRoom_32 : decode b_M_makeRoom 32 = .ok (.iconst 0, 1) := by decide +kernel
theorem d_M_makeRoom_33 : decode b_M_makeRoom 33 = .ok (.istore_n 1, 1) := by decide +kernel
theorem d_M_makeRoom_34 : decode b_M_makeRoom 34 = .ok (.iconst (-1), 1) := by decide +kernel
theorem d_M_makeRoom_35 : decode b_M_makeRoom 35 = .ok (.istore_n 2, 1) := by decide +kernel
theorem d_M_makeRoom_36 : decode b_M_makeRoom 36 = .ok (.iconst 0, 1) := by decide +kernel
theorem d_M_makeRoom_37 : decode b_M_makeRoom 37 = .ok (.istore_n 3, 1) := by decide +kernel
theorem d_M_makeRoom_38 : decode b_M_makeRoom 38 = .ok (.iload_n 3, 1) := by decide +kernel
theorem d_M_makeRoom_39 : decode b_M_makeRoom 39 = .ok (.bipush 8, 2) := by decide +kernel
theorem d_M_makeRoom_41 : decode b_M_makeRoom 41 = .ok (.if_icmp .ge (44), 3) := by decide +kernel
theorem d_M_makeRoom_44 : decode b_M_makeRoom 44 = .ok (.aload_n 0, 1) := by decide +kernel
theorem d_M_makeRoom_45 : decode b_M_makeRoom 45 = .ok (.iload_n 3, 1) := by decide +kernel
theorem d_M_makeRoom_46 : decode b_M_makeRoom 46 = .ok (.invokevirtual 98, 3) := by decide +kernel
theorem d_M_makeRoom_49 : decode b_M_makeRoom 49 = .ok (.ifCond .ne (6), 3) := by decide +kernel
theorem d_M_makeRoom_52 : decode b_M_makeRoom 52 = .ok (.goto (27), 3) := by decide +kernel
theorem d_M_makeRoom_55 : decode b_M_makeRoom 55 = .ok (.iinc 1 1, 3) := by decide +kernel
theorem d_M_makeRoom_58 : decode b_M_makeRoom 58 = .ok (.iload_n 2, 1) := by decide +kernel
theorem d_M_makeRoom_59 : decode b_M_makeRoom 59 = .ok (.ifCond .lt (18), 3) := by decide +kernel
theorem d_M_makeRoom_62 : decode b_M_makeRoom 62 = .ok (.aload_n 0, 1) := by decide +kernel
theorem d_M_makeRoom_63 : decode b_M_makeRoom 63 = .ok (.getfield 13, 3) := by decide +kernel
theorem d_M_makeRoom_66 : decode b_M_makeRoom 66 = .ok (.iload_n 3, 1) := by decide +kernel
theorem d_M_makeRoom_67 : decode b_M_makeRoom 67 = .ok (.iaload, 1) := by decide +kernel
theorem d_M_makeRoom_68 : decode b_M_makeRoom 68 = .ok (.aload_n 0, 1) := by decide +kernel
theorem d_M_makeRoom_69 : decode b_M_makeRoom 69 = .ok (.getfield 13, 3) := by decide +kernel
theorem d_M_makeRoom_72 : decode b_M_makeRoom 72 = .ok (.iload_n 2, 1) := by decide +kernel
theorem d_M_makeRoom_73 : decode b_M_makeRoom 73 = .ok (.iaload, 1) := by decide +kernel
theorem d_M_makeRoom_74 : decode b_M_makeRoom 74 = .ok (.if_icmp .ge (5), 3) := by decide +kernel
theorem d_M_makeRoom_77 : decode b_M_makeRoom 77 = .ok (.iload_n 3, 1) := by decide +kernel
theorem d_M_makeRoom_78 : decode b_M_makeRoom 78 = .ok (.istore_n 2, 1) := by decide +kernel
theorem d_M_makeRoom_79 : decode b_M_makeRoom 79 = .ok (.iinc 3 1, 3) := by decide +kernel
theorem d_M_makeRoom_82 : decode b_M_makeRoom 82 = .ok (.goto (-44), 3) := by decide +kernel
theorem d_M_makeRoom_85 : decode b_M_makeRoom 85 = .ok (.aload_n 0, 1) := by decide +kernel
theorem d_M_makeRoom_86 : decode b_M_makeRoom 86 = .ok (.invokevirtual 101, 3) := by decide +kernel
theorem d_M_makeRoom_89 : decode b_M_makeRoom 89 = .ok (.istore_n 3, 1) := by decide +kernel
theorem d_M_makeRoom_90 : decode b_M_makeRoom 90 = .ok (.iload_n 1, 1) := by decide +kernel
theorem d_M_makeRoom_91 : decode b_M_makeRoom 91 = .ok (.ifCond .le (32), 3) := by decide +kernel
theorem d_M_makeRoom_94 : decode b_M_makeRoom 94 = .ok (.aload_n 0, 1) := by decide +kernel
theorem d_M_makeRoom_95 : decode b_M_makeRoom 95 = .ok (.iload_n 2, 1) := by decide +kernel
theorem d_M_makeRoom_96 : decode b_M_makeRoom 96 = .ok (.putfield 40, 3) := by decide +kernel
theorem d_M_makeRoom_99 : decode b_M_makeRoom 99 = .ok (.iload_n 1, 1) := by decide +kernel
theorem d_M_makeRoom_100 : decode b_M_makeRoom 100 = .ok (.iconst 1, 1) := by decide +kernel
theorem d_M_makeRoom_101 : decode b_M_makeRoom 101 = .ok (.if_icmp .gt (15), 3) := by decide +kernel
theorem d_M_makeRoom_104 : decode b_M_makeRoom 104 = .ok (.iload_n 3, 1) := by decide +kernel
theorem d_M_makeRoom_105 : decode b_M_makeRoom 105 = .ok (.ifCond .lt (11), 3) := by decide +kernel
theorem d_M_makeRoom_108 : decode b_M_makeRoom 108 = .ok (.aload_n 0, 1) := by decide +kernel
theorem d_M_makeRoom_109 : decode b_M_makeRoom 109 = .ok (.iload_n 3, 1) := by decide +kernel
theorem d_M_makeRoom_110 : decode b_M_makeRoom 110 = .ok (.invokevirtual 105, 3) := by decide +kernel
theorem d_M_makeRoom_113 : decode b_M_makeRoom 113 = .ok (.ifCond .eq (7), 3) := by decide +kernel
theorem d_M_makeRoom_116 : decode b_M_makeRoom 116 = .ok (.iconst 0, 1) := by decide +kernel
theorem d_M_makeRoom_117 : decode b_M_makeRoom 117 = .ok (.goto (5), 3) := by decide +kernel
theorem d_M_makeRoom_120 : decode b_M_makeRoom 120 = .ok (.bipush (-2), 2) := by decide +kernel
theorem d_M_makeRoom_122 : decode b_M_makeRoom 122 = .ok (.ireturn, 1) := by decide +kernel
theorem d_M_makeRoom_123 : decode b_M_makeRoom 123 = .ok (.iload_n 3, 1) := by decide +kernel
theorem d_M_makeRoom_124 : decode b_M_makeRoom 124 = .ok (.ifCond .lt (11), 3) := by decide +kernel
theorem d_M_makeRoom_127 : decode b_M_makeRoom 127 = .ok (.aload_n 0, 1) := by decide +kernel
theorem d_M_makeRoom_128 : decode b_M_makeRoom 128 = .ok (.iload_n 3, 1) := by decide +kernel
theorem d_M_makeRoom_129 : decode b_M_makeRoom 129 = .ok (.invokevirtual 108, 3) := by decide +kernel
theorem d_M_makeRoom_132 : decode b_M_makeRoom 132 = .ok (.ifCond .le (5), 3) := by decide +kernel
theorem d_M_makeRoom_135 : decode b_M_makeRoom 135 = .ok (.iconst (-1), 1) := by decide +kernel
theorem d_M_makeRoom_136 : decode b_M_makeRoom 136 = .ok (.ireturn, 1) := by decide +kernel
theorem d_M_makeRoom_137 : decode b_M_makeRoom 137 = .ok (.aload_n 0, 1) := by decide +kernel
theorem d_M_makeRoom_138 : decode b_M_makeRoom 138 = .ok (.iload_n 3, 1) := by decide +kernel
theorem d_M_makeRoom_139 : decode b_M_makeRoom 139 = .ok (.invokevirtual 111, 3) := by decide +kernel
theorem d_M_makeRoom_142 : decode b_M_makeRoom 142 = .ok (.ifCond .ne (6), 3) := by decide +kernel
theorem d_M_makeRoom_145 : decode b_M_makeRoom 145 = .ok (.bipush (-2), 2) := by decide +kernel
theorem d_M_makeRoom_147 : decode b_M_makeRoom 147 = .ok (.ireturn, 1) := by decide +kernel
theorem d_M_makeRoom_148 : decode b_M_makeRoom 148 = .ok (.aload_n 0, 1) := by decide +kernel
theorem d_M_makeRoom_149 : decode b_M_makeRoom 149 = .ok (.iload_n 3, 1) := by decide +kernel
theorem d_M_makeRoom_150 : decode b_M_makeRoom 150 = .ok (.putfield 40, 3) := by decide +kernel
theorem d_M_makeRoom_153 : decode b_M_makeRoom 153 = .ok (.iconst 0, 1) := by decide +kernel
theorem d_M_makeRoom_154 : decode b_M_makeRoom 154 = .ok (.ireturn, 1) := by decide +kernel
theorem d_M_writeLeaf_0 : decode b_M_writeLeaf 0 = .ok (.aload_n 0, 1) := by decide +kernel
theorem d_M_writeLeaf_1 : decode b_M_writeLeaf 1 = .ok (.getfield 64, 3) := by decide +kernel
theorem d_M_writeLeaf_4 : decode b_M_writeLeaf 4 = .ok (.ifCond .eq (7), 3) := by decide +kernel
theorem d_M_writeLeaf_7 : decode b_M_writeLeaf 7 = .ok (.iconst (-1), 1) := by decide +kernel
theorem d_M_writeLeaf_8 : decode b_M_writeLeaf 8 = .ok (.goto (7), 3) := by decide +kernel
theorem d_M_writeLeaf_11 : decode b_M_writeLeaf 11 = .ok (.aload_n 0, 1) := by decide +kernel
theorem d_M_writeLeaf_12 : decode b_M_writeLeaf 12 = .ok (.invokevirtual 118, 3) := by decide +kernel
theorem d_M_writeLeaf_15 : decode b_M_writeLeaf 15 = .ok (.istore_n 3, 1) := by decide +kernel
theorem d_M_writeLeaf_16 : decode b_M_writeLeaf 16 = .ok (.aload_n 0, 1) := by decide +kernel
theorem d_M_writeLeaf_17 : decode b_M_writeLeaf 17 = .ok (.aload_n 0, 1) := by decide +kernel
theorem d_M_writeLeaf_18 : decode b_M_writeLeaf 18 = .ok (.getfield 64, 3) := by decide +kernel
theorem d_M_writeLeaf_21 : decode b_M_writeLeaf 21 = .ok (.ifCond .ne (8), 3) := by decide +kernel
theorem d_M_writeLeaf_24 : decode b_M_writeLeaf 24 = .ok (.iload_n 3, 1) := by decide +kernel
theorem d_M_writeLeaf_25 : decode b_M_writeLeaf 25 = .ok (.iconst (-1), 1) := by decide +kernel
theorem d_M_writeLeaf_26 : decode b_M_writeLeaf 26 = .ok (.if_icmp .ne (7), 3) := by decide +kernel
theorem d_M_writeLeaf_29 : decode b_M_writeLeaf 29 = .ok (.iconst 1, 1) := by decide +kernel
theorem d_M_writeLeaf_30 : decode b_M_writeLeaf 30 = .ok (.goto (4), 3) := by decide +kernel
theorem d_M_writeLeaf_33 : decode b_M_writeLeaf 33 = .ok (.iconst 0, 1) := by decide +kernel
theorem d_M_writeLeaf_34 : decode b_M_writeLeaf 34 = .ok (.putfield 64, 3) := by decide +kernel
theorem d_M_writeLeaf_37 : decode b_M_writeLeaf 37 = .ok (.iload_n 3, 1) := by decide +kernel
theorem d_M_writeLeaf_38 : decode b_M_writeLeaf 38 = .ok (.ifCond .eq (5), 3) := by decide +kernel
theorem d_M_writeLeaf_41 : decode b_M_writeLeaf 41 = .ok (.iload_n 3, 1) := by decide +kernel
theorem d_M_writeLeaf_42 : decode b_M_writeLeaf 42 = .ok (.ireturn, 1) := by decide +kernel
theorem d_M_writeLeaf_43 : decode b_M_writeLeaf 43 = .ok (.iload_n 2, 1) := by decide +kernel
theorem d_M_writeLeaf_44 : decode b_M_writeLeaf 44 = .ok (.iconst 3, 1) := by decide +kernel
theorem d_M_writeLeaf_45 : decode b_M_writeLeaf 45 = .ok (.iload_n 1, 1) := by decide +kernel
theorem d_M_writeLeaf_46 : decode b_M_writeLeaf 46 = .ok (.imul, 1) := by decide +kernel
theorem d_M_writeLeaf_47 : decode b_M_writeLeaf 47 = .ok (.isub, 1) := by decide +kernel
theorem d_M_writeLeaf_48 : decode b_M_writeLeaf 48 = .ok (.iconst 3, 1) := by decide +kernel
theorem d_M_writeLeaf_49 : decode b_M_writeLeaf 49 = .ok (.if_icmp .ge (11), 3) := by decide +kernel
theorem d_M_writeLeaf_52 : decode b_M_writeLeaf 52 = .ok (.iload_n 2, 1) := by decide +kernel
theorem d_M_writeLeaf_53 : decode b_M_writeLeaf 53 = .ok (.iconst 3, 1) := by decide +kernel
theorem d_M_writeLeaf_54 : decode b_M_writeLeaf 54 = .ok (.iload_n 1, 1) := by decide +kernel
theorem d_M_writeLeaf_55 : decode b_M_writeLeaf 55 = .ok (.imul, 1) := by decide +kernel
theorem d_M_writeLeaf_56 : decode b_M_writeLeaf 56 = .ok (.isub, 1) := by decide +kernel
theorem d_M_writeLeaf_57 : decode b_M_writeLeaf 57 = .ok (.goto (4), 3) := by decide +kernel
theorem d_M_writeLeaf_60 : decode b_M_writeLeaf 60 = .ok (.iconst 3, 1) := by decide +kernel
theorem d_M_writeLeaf_61 : decode b_M_writeLeaf 61 = .ok (.istore 4, 2) := by decide +kernel
theorem d_M_writeLeaf_63 : decode b_M_writeLeaf 63 = .ok (.aload_n 0, 1) := by decide +kernel
theorem d_M_writeLeaf_64 : decode b_M_writeLeaf 64 = .ok (.getfield 43, 3) := by decide +kernel
theorem d_M_writeLeaf_67 : decode b_M_writeLeaf 67 = .ok (.iconst 0, 1) := by decide +kernel
theorem d_M_writeLeaf_68 : decode b_M_writeLeaf 68 = .ok (.iconst 4, 1) := by decide +kernel
theorem d_M_writeLeaf_69 : decode b_M_writeLeaf 69 = .ok (.iload_n 1, 1) := by decide +kernel
theorem d_M_writeLeaf_70 : decode b_M_writeLeaf 70 = .ok (.imul, 1) := by decide +kernel
theorem d_M_writeLeaf_71 : decode b_M_writeLeaf 71 = .ok (.iload 4, 2) := by decide +kernel
theorem d_M_writeLeaf_73 : decode b_M_writeLeaf 73 = .ok (.iadd, 1) := by decide +kernel
theorem d_M_writeLeaf_74 : decode b_M_writeLeaf 74 = .ok (.iastore, 1) := by decide +kernel
theorem d_M_writeLeaf_75 : decode b_M_writeLeaf 75 = .ok (.iconst 0, 1) := by decide +kernel
theorem d_M_writeLeaf_76 : decode b_M_writeLeaf 76 = .ok (.istore 5, 2) := by decide +kernel
theorem d_M_writeLeaf_78 : decode b_M_writeLeaf 78 = .ok (.iload 5, 2) := by decide +kernel
theorem d_M_writeLeaf_80 : decode b_M_writeLeaf 80 = .ok (.bipush 12, 2) := by decide +kernel
theorem d_M_writeLeaf_82 : decode b_M_writeLeaf 82 = .ok (.if_icmp .ge (43), 3) := by decide +kernel
theorem d_M_writeLeaf_85 : decode b_M_writeLeaf 85 = .ok (.aload_n 0, 1) := by decide +kernel
theorem d_M_writeLeaf_86 : decode b_M_writeLeaf 86 = .ok (.getfield 43, 3) := by decide +kernel
theorem d_M_writeLeaf_89 : decode b_M_writeLeaf 89 = .ok (.iconst 2, 1) := by decide +kernel
theorem d_M_writeLeaf_90 : decode b_M_writeLeaf 90 = .ok (.iload 5, 2) := by decide +kernel
theorem d_M_writeLeaf_92 : decode b_M_writeLeaf 92 = .ok (.iadd, 1) := by decide +kernel
theorem d_M_writeLeaf_93 : decode b_M_writeLeaf 93 = .ok (.iload 5, 2) := by decide +kernel
theorem d_M_writeLeaf_95 : decode b_M_writeLeaf 95 = .ok (.iconst 4, 1) := by decide +kernel
theorem d_M_writeLeaf_96 : decode b_M_writeLeaf 96 = .ok (.iload 4, 2) := by decide +kernel
theorem d_M_writeLeaf_98 : decode b_M_writeLeaf 98 = .ok (.imul, 1) := by decide +kernel
theorem d_M_writeLeaf_99 : decode b_M_writeLeaf 99 = .ok (.if_icmp .ge (18), 3) := by decide +kernel
theorem d_M_writeLeaf_102 : decode b_M_writeLeaf 102 = .ok (.aload_n 0, 1) := by decide +kernel
theorem d_M_writeLeaf_103 : decode b_M_writeLeaf 103 = .ok (.getfield 31, 3) := by decide +kernel
theorem d_M_writeLeaf_106 : decode b_M_writeLeaf 106 = .ok (.bipush 12, 2) := by decide +kernel
theorem d_M_writeLeaf_108 : decode b_M_writeLeaf 108 = .ok (.iload_n 1, 1) := by decide +kernel
theorem d_M_writeLeaf_109 : decode b_M_writeLeaf 109 = .ok (.imul, 1) := by decide +kernel
theorem d_M_writeLeaf_110 : decode b_M_writeLeaf 110 = .ok (.iload 5, 2) := by decide +kernel
theorem d_M_writeLeaf_112 : decode b_M_writeLeaf 112 = .ok (.iadd, 1) := by decide +kernel
theorem d_M_writeLeaf_113 : decode b_M_writeLeaf 113 = .ok (.iaload, 1) := by decide +kernel
theorem d_M_writeLeaf_114 : decode b_M_writeLeaf 114 = .ok (.goto (4), 3) := by decide +kernel
theorem d_M_writeLeaf_117 : decode b_M_writeLeaf 117 = .ok (.iconst 0, 1) := by decide +kernel
theorem d_M_writeLeaf_118 : decode b_M_writeLeaf 118 = .ok (.iastore, 1) := by decide +kernel
theorem d_M_writeLeaf_119 : decode b_M_writeLeaf 119 = .ok (.iinc 5 1, 3) := by decide +kernel
theorem d_M_writeLeaf_122 : decode b_M_writeLeaf 122 = .ok (.goto (-44), 3) := by decide +kernel
theorem d_M_writeLeaf_125 : decode b_M_writeLeaf 125 = .ok (.aload_n 0, 1) := by decide +kernel
theorem d_M_writeLeaf_126 : decode b_M_writeLeaf 126 = .ok (.aload_n 0, 1) := by decide +kernel
theorem d_M_writeLeaf_127 : decode b_M_writeLeaf 127 = .ok (.aload_n 0, 1) := by decide +kernel
theorem d_M_writeLeaf_128 : decode b_M_writeLeaf 128 = .ok (.getfield 40, 3) := by decide +kernel
theorem d_M_writeLeaf_131 : decode b_M_writeLeaf 131 = .ok (.invokevirtual 95, 3) := by decide +kernel
theorem d_M_writeLeaf_134 : decode b_M_writeLeaf 134 = .ok (.iload_n 1, 1) := by decide +kernel
theorem d_M_writeLeaf_135 : decode b_M_writeLeaf 135 = .ok (.invokevirtual 114, 3) := by decide +kernel
theorem d_M_writeLeaf_138 : decode b_M_writeLeaf 138 = .ok (.ifCond .eq (7), 3) := by decide +kernel
theorem d_M_writeLeaf_141 : decode b_M_writeLeaf 141 = .ok (.iconst 0, 1) := by decide +kernel
theorem d_M_writeLeaf_142 : decode b_M_writeLeaf 142 = .ok (.goto (5), 3) := by decide +kernel
theorem d_M_writeLeaf_145 : decode b_M_writeLeaf 145 = .ok (.bipush (-2), 2) := by decide +kernel
theorem d_M_writeLeaf_147 : decode b_M_writeLeaf 147 = .ok (.ireturn, 1) := by decide +kernel
theorem d_M_at_0 : decode b_M_at 0 = .ok (.aload_n 0, 1) := by decide +kernel
theorem d_M_at_1 : decode b_M_at 1 = .ok (.getfield 31, 3) := by decide +kernel
theorem d_M_at_4 : decode b_M_at 4 = .ok (.iconst 4, 1) := by decide +kernel
theorem d_M_at_5 : decode b_M_at 5 = .ok (.iload_n 1, 1) := by decide +kernel
theorem d_M_at_6 : decode b_M_at 6 = .ok (.imul, 1) := by decide +kernel
theorem d_M_at_7 : decode b_M_at 7 = .ok (.iload_n 2, 1) := by decide +kernel
theorem d_M_at_8 : decode b_M_at 8 = .ok (.iadd, 1) := by decide +kernel
theorem d_M_at_9 : decode b_M_at 9 = .ok (.iaload, 1) := by decide +kernel
theorem d_M_at_10 : decode b_M_at 10 = .ok (.ireturn, 1) := by decide +kernel
theorem d_M_isVoiding_0 : decode b_M_isVoiding 0 = .ok (.aload_n 0, 1) := by decide +kernel
theorem d_M_isVoiding_1 : decode b_M_isVoiding 1 = .ok (.iload_n 1, 1) := by decide +kernel
theorem d_M_isVoiding_2 : decode b_M_isVoiding 2 = .ok (.iconst 2, 1) := by decide +kernel
theorem d_M_isVoiding_3 : decode b_M_isVoiding 3 = .ok (.invokevirtual 121, 3) := by decide +kernel
theorem d_M_isVoiding_6 : decode b_M_isVoiding 6 = .ok (.bipush 26, 2) := by decide +kernel
theorem d_M_isVoiding_8 : decode b_M_isVoiding 8 = .ok (.iushr, 1) := by decide +kernel
theorem d_M_isVoiding_9 : decode b_M_isVoiding 9 = .ok (.bipush 63, 2) := by decide +kernel
theorem d_M_isVoiding_11 : decode b_M_isVoiding 11 = .ok (.if_icmp .ne (7), 3) := by decide +kernel
theorem d_M_isVoiding_14 : decode b_M_isVoiding 14 = .ok (.iconst 1, 1) := by decide +kernel
theorem d_M_isVoiding_15 : decode b_M_isVoiding 15 = .ok (.goto (4), 3) := by decide +kernel
theorem d_M_isVoiding_18 : decode b_M_isVoiding 18 = .ok (.iconst 0, 1) := by decide +kernel
theorem d_M_isVoiding_19 : decode b_M_isVoiding 19 = .ok (.ireturn, 1) := by decide +kernel
theorem d_M_placeOf_0 : decode b_M_placeOf 0 = .ok (.iconst 0, 1) := by decide +kernel
theorem d_M_placeOf_1 : decode b_M_placeOf 1 = .ok (.istore_n 2, 1) := by decide +kernel
theorem d_M_placeOf_2 : decode b_M_placeOf 2 = .ok (.iconst 0, 1) := by decide +kernel
theorem d_M_placeOf_3 : decode b_M_placeOf 3 = .ok (.istore_n 3, 1) := by decide +kernel
theorem d_M_placeOf_4 : decode b_M_placeOf 4 = .ok (.iload_n 3, 1) := by decide +kernel
theorem d_M_placeOf_5 : decode b_M_placeOf 5 = .ok (.aload_n 0, 1) := by decide +kernel
theorem d_M_placeOf_6 : decode b_M_placeOf 6 = .ok (.getfield 52, 3) := by decide +kernel
theorem d_M_placeOf_9 : decode b_M_placeOf 9 = .ok (.if_icmp .ge (30), 3) := by decide +kernel
theorem d_M_placeOf_12 : decode b_M_placeOf 12 = .ok (.aload_n 0, 1) := by decide +kernel
theorem d_M_placeOf_13 : decode b_M_placeOf 13 = .ok (.iload_n 3, 1) := by decide +kernel
theorem d_M_placeOf_14 : decode b_M_placeOf 14 = .ok (.invokevirtual 124, 3) := by decide +kernel
theorem d_M_placeOf_17 : decode b_M_placeOf 17 = .ok (.ifCond .eq (6), 3) := by decide +kernel
theorem d_M_placeOf_20 : decode b_M_placeOf 20 = .ok (.goto (13), 3) := by decide +kernel
theorem d_M_placeOf_23 : decode b_M_placeOf 23 = .ok (.iinc 2 1, 3) := by decide +kernel
theorem d_M_placeOf_26 : decode b_M_placeOf 26 = .ok (.iload_n 2, 1) := by decide +kernel
theorem d_M_placeOf_27 : decode b_M_placeOf 27 = .ok (.iload_n 1, 1) := by decide +kernel
theorem d_M_placeOf_28 : decode b_M_placeOf 28 = .ok (.if_icmp .ne (5), 3) := by decide +kernel
theorem d_M_placeOf_31 : decode b_M_placeOf 31 = .ok (.iload_n 3, 1) := by decide +kernel
theorem d_M_placeOf_32 : decode b_M_placeOf 32 = .ok (.ireturn, 1) := by decide +kernel
theorem d_M_placeOf_33 : decode b_M_placeOf 33 = .ok (.iinc 3 1, 3) := by decide +kernel
theorem d_M_placeOf_36 : decode b_M_placeOf 36 = .ok (.goto (-32), 3) := by decide +kernel
theorem d_M_placeOf_39 : decode b_M_placeOf 39 = .ok (.iconst (-1), 1) := by decide +kernel
theorem d_M_placeOf_40 : decode b_M_placeOf 40 = .ok (.ireturn, 1) := by decide +kernel
theorem d_M_tickets_0 : decode b_M_tickets 0 = .ok (.iconst 0, 1) := by decide +kernel
theorem d_M_tickets_1 : decode b_M_tickets 1 = .ok (.istore_n 1, 1) := by decide +kernel
theorem d_M_tickets_2 : decode b_M_tickets 2 = .ok (.iconst 0, 1) := by decide +kernel
theorem d_M_tickets_3 : decode b_M_tickets 3 = .ok (.istore_n 2, 1) := by decide +kernel
theorem d_M_tickets_4 : decode b_M_tickets 4 = .ok (.iload_n 2, 1) := by decide +kernel
theorem d_M_tickets_5 : decode b_M_tickets 5 = .ok (.aload_n 0, 1) := by decide +kernel
theorem d_M_tickets_6 : decode b_M_tickets 6 = .ok (.getfield 52, 3) := by decide +kernel
theorem d_M_tickets_9 : decode b_M_tickets 9 = .ok (.if_icmp .ge (25), 3) := by decide +kernel
theorem d_M_tickets_12 : decode b_M_tickets 12 = .ok (.iload_n 1, 1) := by decide +kernel
theorem d_M_tickets_13 : decode b_M_tickets 13 = .ok (.aload_n 0, 1) := by decide +kernel
theorem d_M_tickets_14 : decode b_M_tickets 14 = .ok (.iload_n 2, 1) := by decide +kernel
theorem d_M_tickets_15 : decode b_M_tickets 15 = .ok (.invokevirtual 124, 3) := by decide +kernel
theorem d_M_tickets_18 : decode b_M_tickets 18 = .ok (.ifCond .eq (7), 3) := by decide +kernel
theorem d_M_tickets_21 : decode b_M_tickets 21 = .ok (.iconst 0, 1) := by decide +kernel
theorem d_M_tickets_22 : decode b_M_tickets 22 = .ok (.goto (4), 3) := by decide +kernel
theorem d_M_tickets_25 : decode b_M_tickets 25 = .ok (.iconst 1, 1) := by decide +kernel
theorem d_M_tickets_26 : decode b_M_tickets 26 = .ok (.iadd, 1) := by decide +kernel
theorem d_M_tickets_27 : decode b_M_tickets 27 = .ok (.istore_n 1, 1) := by decide +kernel
theorem d_M_tickets_28 : decode b_M_tickets 28 = .ok (.iinc 2 1, 3) := by decide +kernel
theorem d_M_tickets_31 : decode b_M_tickets 31 = .ok (.goto (-27), 3) := by decide +kernel
theorem d_M_tickets_34 : decode b_M_tickets 34 = .ok (.iload_n 1, 1) := by decide +kernel
theorem d_M_tickets_35 : decode b_M_tickets 35 = .ok (.ireturn, 1) := by decide +kernel
theorem d_M_voided_0 : decode b_M_voided 0 = .ok (.aload_n 0, 1) := by decide +kernel
theorem d_M_voided_1 : decode b_M_voided 1 = .ok (.iload_n 1, 1) := by decide +kernel
theorem d_M_voided_2 : decode b_M_voided 2 = .ok (.invokevirtual 127, 3) := by decide +kernel
theorem d_M_voided_5 : decode b_M_voided 5 = .ok (.iconst 1, 1) := by decide +kernel
theorem d_M_voided_6 : decode b_M_voided 6 = .ok (.iadd, 1) := by decide +kernel
theorem d_M_voided_7 : decode b_M_voided 7 = .ok (.istore_n 2, 1) := by decide +kernel
theorem d_M_voided_8 : decode b_M_voided 8 = .ok (.iload_n 2, 1) := by decide +kernel
theorem d_M_voided_9 : decode b_M_voided 9 = .ok (.aload_n 0, 1) := by decide +kernel
theorem d_M_voided_10 : decode b_M_voided 10 = .ok (.getfield 52, 3) := by decide +kernel
theorem d_M_voided_13 : decode b_M_voided 13 = .ok (.if_icmp .ge (50), 3) := by decide +kernel
theorem d_M_voided_16 : decode b_M_voided 16 = .ok (.aload_n 0, 1) := by decide +kernel
theorem d_M_voided_17 : decode b_M_voided 17 = .ok (.iload_n 2, 1) := by decide +kernel
theorem d_M_voided_18 : decode b_M_voided 18 = .ok (.invokevirtual 124, 3) := by decide +kernel
theorem d_M_voided_21 : decode b_M_voided 21 = .ok (.ifCond .eq (36), 3) := by decide +kernel
theorem d_M_voided_24 : decode b_M_voided 24 = .ok (.aload_n 0, 1) := by decide +kernel
theorem d_M_voided_25 : decode b_M_voided 25 = .ok (.iload_n 2, 1) := by decide +kernel
theorem d_M_voided_26 : decode b_M_voided 26 = .ok (.iconst 0, 1) := by decide +kernel
theorem d_M_voided_27 : decode b_M_voided 27 = .ok (.invokevirtual 121, 3) := by decide +kernel
theorem d_M_voided_30 : decode b_M_voided 30 = .ok (.iload_n 1, 1) := by decide +kernel
theorem d_M_voided_31 : decode b_M_voided 31 = .ok (.if_icmp .ne (26), 3) := by decide +kernel
theorem d_M_voided_34 : decode b_M_voided 34 = .ok (.aload_n 0, 1) := by decide +kernel
theorem d_M_voided_35 : decode b_M_voided 35 = .ok (.iload_n 2, 1) := by decide +kernel
theorem d_M_voided_36 : decode b_M_voided 36 = .ok (.iconst 1, 1) := by decide +kernel
theorem d_M_voided_37 : decode b_M_voided 37 = .ok (.invokevirtual 121, 3) := by decide +kernel
theorem d_M_voided_40 : decode b_M_voided 40 = .ok (.iconst 0, 1) := by decide +kernel
theorem d_M_voided_41 : decode b_M_voided 41 = .ok (.iconst 3, 1) := by decide +kernel
theorem d_M_voided_42 : decode b_M_voided 42 = .ok (.invokestatic 130, 3) := by decide +kernel
theorem d_M_voided_45 : decode b_M_voided 45 = .ok (.ifCond .eq (12), 3) := by decide +kernel
theorem d_M_voided_48 : decode b_M_voided 48 = .ok (.aload_n 0, 1) := by decide +kernel
theorem d_M_voided_49 : decode b_M_voided 49 = .ok (.iload_n 2, 1) := by decide +kernel
theorem d_M_voided_50 : decode b_M_voided 50 = .ok (.iconst 1, 1) := by decide +kernel
theorem d_M_voided_51 : decode b_M_voided 51 = .ok (.invokevirtual 121, 3) := by decide +kernel
theorem d_M_voided_54 : decode b_M_voided 54 = .ok (.iconst 1, 1) := by decide +kernel
theorem d_M_voided_55 : decode b_M_voided 55 = .ok (.iadd, 1) := by decide +kernel
theorem d_M_voided_56 : decode b_M_voided 56 = .ok (.ireturn, 1) := by decide +kernel
theorem d_M_voided_57 : decode b_M_voided 57 = .ok (.iinc 2 1, 3) := by decide +kernel
theorem d_M_voided_60 : decode b_M_voided 60 = .ok (.goto (-52), 3) := by decide +kernel
theorem d_M_voided_63 : decode b_M_voided 63 = .ok (.iconst 0, 1) := by decide +kernel
theorem d_M_voided_64 : decode b_M_voided 64 = .ok (.ireturn, 1) := by decide +kernel
theorem d_M_durable_0 : decode b_M_durable 0 = .ok (.iconst 0, 1) := by decide +kernel
theorem d_M_durable_1 : decode b_M_durable 1 = .ok (.istore_n 1, 1) := by decide +kernel
theorem d_M_durable_2 : decode b_M_durable 2 = .ok (.iconst 0, 1) := by decide +kernel
theorem d_M_durable_3 : decode b_M_durable 3 = .ok (.istore_n 2, 1) := by decide +kernel
theorem d_M_durable_4 : decode b_M_durable 4 = .ok (.iload_n 2, 1) := by decide +kernel
theorem d_M_durable_5 : decode b_M_durable 5 = .ok (.bipush 16, 2) := by decide +kernel
theorem d_M_durable_7 : decode b_M_durable 7 = .ok (.if_icmp .ge (31), 3) := by decide +kernel
theorem d_M_durable_10 : decode b_M_durable 10 = .ok (.iload_n 1, 1) := by decide +kernel
theorem d_M_durable_11 : decode b_M_durable 11 = .ok (.aload_n 0, 1) := by decide +kernel
theorem d_M_durable_12 : decode b_M_durable 12 = .ok (.getfield 34, 3) := by decide +kernel
theorem d_M_durable_15 : decode b_M_durable 15 = .ok (.iload_n 2, 1) := by decide +kernel
theorem d_M_durable_16 : decode b_M_durable 16 = .ok (.iaload, 1) := by decide +kernel
theorem d_M_durable_17 : decode b_M_durable 17 = .ok (.ifCond .lt (12), 3) := by decide +kernel
theorem d_M_durable_20 : decode b_M_durable 20 = .ok (.aload_n 0, 1) := by decide +kernel
theorem d_M_durable_21 : decode b_M_durable 21 = .ok (.getfield 37, 3) := by decide +kernel
theorem d_M_durable_24 : decode b_M_durable 24 = .ok (.iload_n 2, 1) := by decide +kernel
theorem d_M_durable_25 : decode b_M_durable 25 = .ok (.iaload, 1) := by decide +kernel
theorem d_M_durable_26 : decode b_M_durable 26 = .ok (.goto (4), 3) := by decide +kernel
theorem d_M_durable_29 : decode b_M_durable 29 = .ok (.iconst 0, 1) := by decide +kernel
theorem d_M_durable_30 : decode b_M_durable 30 = .ok (.iadd, 1) := by decide +kernel
theorem d_M_durable_31 : decode b_M_durable 31 = .ok (.istore_n 1, 1) := by decide +kernel
theorem d_M_durable_32 : decode b_M_durable 32 = .ok (.iinc 2 1, 3) := by decide +kernel
theorem d_M_durable_35 : decode b_M_durable 35 = .ok (.goto (-31), 3) := by decide +kernel
theorem d_M_durable_38 : decode b_M_durable 38 = .ok (.iload_n 1, 1) := by decide +kernel
theorem d_M_durable_39 : decode b_M_durable 39 = .ok (.ireturn, 1) := by decide +kernel
theorem d_M_liveCount_0 : decode b_M_liveCount 0 = .ok (.iconst 0, 1) := by decide +kernel
theorem d_M_liveCount_1 : decode b_M_liveCount 1 = .ok (.istore_n 1, 1) := by decide +kernel
theorem d_M_liveCount_2 : decode b_M_liveCount 2 = .ok (.iconst 0, 1) := by decide +kernel
theorem d_M_liveCount_3 : decode b_M_liveCount 3 = .ok (.istore_n 2, 1) := by decide +kernel
theorem d_M_liveCount_4 : decode b_M_liveCount 4 = .ok (.iload_n 2, 1) := by decide +kernel
theorem d_M_liveCount_5 : decode b_M_liveCount 5 = .ok (.bipush 16, 2) := by decide +kernel
theorem d_M_liveCount_7 : decode b_M_liveCount 7 = .ok (.if_icmp .ge (26), 3) := by decide +kernel
theorem d_M_liveCount_10 : decode b_M_liveCount 10 = .ok (.iload_n 1, 1) := by decide +kernel
theorem d_M_liveCount_11 : decode b_M_liveCount 11 = .ok (.aload_n 0, 1) := by decide +kernel
theorem d_M_liveCount_12 : decode b_M_liveCount 12 = .ok (.getfield 34, 3) := by decide +kernel
theorem d_M_liveCount_15 : decode b_M_liveCount 15 = .ok (.iload_n 2, 1) := by decide +kernel
theorem d_M_liveCount_16 : decode b_M_liveCount 16 = .ok (.iaload, 1) := by decide +kernel
theorem d_M_liveCount_17 : decode b_M_liveCount 17 = .ok (.ifCond .lt (7), 3) := by decide +kernel
theorem d_M_liveCount_20 : decode b_M_liveCount 20 = .ok (.iconst 1, 1) := by decide +kernel
theorem d_M_liveCount_21 : decode b_M_liveCount 21 = .ok (.goto (4), 3) := by decide +kernel
theorem d_M_liveCount_24 : decode b_M_liveCount 24 = .ok (.iconst 0, 1) := by decide +kernel
theorem d_M_liveCount_25 : decode b_M_liveCount 25 = .ok (.iadd, 1) := by decide +kernel
theorem d_M_liveCount_26 : decode b_M_liveCount 26 = .ok (.istore_n 1, 1) := by decide +kernel
theorem d_M_liveCount_27 : decode b_M_liveCount 27 = .ok (.iinc 2 1, 3) := by decide +kernel
theorem d_M_liveCount_30 : decode b_M_liveCount 30 = .ok (.goto (-26), 3) := by decide +kernel
theorem d_M_liveCount_33 : decode b_M_liveCount 33 = .ok (.iload_n 1, 1) := by decide +kernel
theorem d_M_liveCount_34 : decode b_M_liveCount 34 = .ok (.ireturn, 1) := by decide +kernel
theorem d_M_freePages_0 : decode b_M_freePages 0 = .ok (.iconst 0, 1) := by decide +kernel
theorem d_M_freePages_1 : decode b_M_freePages 1 = .ok (.istore_n 1, 1) := by decide +kernel
theorem d_M_freePages_2 : decode b_M_freePages 2 = .ok (.iconst 0, 1) := by decide +kernel
theorem d_M_freePages_3 : decode b_M_freePages 3 = .ok (.istore_n 2, 1) := by decide +kernel
theorem d_M_freePages_4 : decode b_M_freePages 4 = .ok (.iload_n 2, 1) := by decide +kernel
theorem d_M_freePages_5 : decode b_M_freePages 5 = .ok (.bipush 32, 2) := by decide +kernel
theorem d_M_freePages_7 : decode b_M_freePages 7 = .ok (.if_icmp .ge (36), 3) := by decide +kernel
theorem d_M_freePages_10 : decode b_M_freePages 10 = .ok (.iload_n 1, 1) := by decide +kernel
theorem d_M_freePages_11 : decode b_M_freePages 11 = .ok (.aload_n 0, 1) := by decide +kernel
theorem d_M_freePages_12 : decode b_M_freePages 12 = .ok (.iload_n 2, 1) := by decide +kernel
theorem d_M_freePages_13 : decode b_M_freePages 13 = .ok (.invokevirtual 80, 3) := by decide +kernel
theorem d_M_freePages_16 : decode b_M_freePages 16 = .ok (.ifCond .eq (18), 3) := by decide +kernel
theorem d_M_freePages_19 : decode b_M_freePages 19 = .ok (.aload_n 0, 1) := by decide +kernel
theorem d_M_freePages_20 : decode b_M_freePages 20 = .ok (.getfield 16, 3) := by decide +kernel
theorem d_M_freePages_23 : decode b_M_freePages 23 = .ok (.iload_n 2, 1) := by decide +kernel
theorem d_M_freePages_24 : decode b_M_freePages 24 = .ok (.iconst 4, 1) := by decide +kernel
theorem d_M_freePages_25 : decode b_M_freePages 25 = .ok (.idiv, 1) := by decide +kernel
theorem d_M_freePages_26 : decode b_M_freePages 26 = .ok (.baload, 1) := by decide +kernel
theorem d_M_freePages_27 : decode b_M_freePages 27 = .ok (.ifCond .ne (7), 3) := by decide +kernel
theorem d_M_freePages_30 : decode b_M_freePages 30 = .ok (.iconst 1, 1) := by decide +kernel
theorem d_M_freePages_31 : decode b_M_freePages 31 = .ok (.goto (4), 3) := by decide +kernel
theorem d_M_freePages_34 : decode b_M_freePages 34 = .ok (.iconst 0, 1) := by decide +kernel
theorem d_M_freePages_35 : decode b_M_freePages 35 = .ok (.iadd, 1) := by decide +kernel
theorem d_M_freePages_36 : decode b_M_freePages 36 = .ok (.istore_n 1, 1) := by decide +kernel
theorem d_M_freePages_37 : decode b_M_freePages 37 = .ok (.iinc 2 1, 3) := by decide +kernel
theorem d_M_freePages_40 : decode b_M_freePages 40 = .ok (.goto (-36), 3) := by decide +kernel
theorem d_M_freePages_43 : decode b_M_freePages 43 = .ok (.iload_n 1, 1) := by decide +kernel
theorem d_M_freePages_44 : decode b_M_freePages 44 = .ok (.ireturn, 1) := by decide +kernel
theorem d_M_take_0 : decode b_M_take 0 = .ok (.aload_n 0, 1) := by decide +kernel
theorem d_M_take_1 : decode b_M_take 1 = .ok (.getfield 64, 3) := by decide +kernel
theorem d_M_take_4 : decode b_M_take 4 = .ok (.ifCond .eq (5), 3) := by decide +kernel
theorem d_M_take_7 : decode b_M_take 7 = .ok (.iconst (-1), 1) := by decide +kernel
theorem d_M_take_8 : decode b_M_take 8 = .ok (.ireturn, 1) := by decide +kernel
theorem d_M_take_9 : decode b_M_take 9 = .ok (.aload_n 0, 1) := by decide +kernel
theorem d_M_take_10 : decode b_M_take 10 = .ok (.getfield 52, 3) := by decide +kernel
theorem d_M_take_13 : decode b_M_take 13 = .ok (.istore 4, 2) := by decide +kernel
theorem d_M_take_15 : decode b_M_take 15 = .ok (.aload_n 0, 1) := by decide +kernel
theorem d_M_take_16 : decode b_M_take 16 = .ok (.getfield 31, 3) := by decide +kernel
theorem d_M_take_19 : decode b_M_take 19 = .ok (.iconst 4, 1) := by decide +kernel
theorem d_M_take_20 : decode b_M_take 20 = .ok (.iload 4, 2) := by decide +kernel
theorem d_M_take_22 : decode b_M_take 22 = .ok (.imul, 1) := by decide +kernel
theorem d_M_take_23 : decode b_M_take 23 = .ok (.iload_n 1, 1) := by decide +kernel
theorem d_M_take_24 : decode b_M_take 24 = .ok (.iastore, 1) := by decide +kernel
theorem d_M_take_25 : decode b_M_take 25 = .ok (.aload_n 0, 1) := by decide +kernel
theorem d_M_take_26 : decode b_M_take 26 = .ok (.getfield 31, 3) := by decide +kernel
theorem d_M_take_29 : decode b_M_take 29 = .ok (.iconst 4, 1) := by decide +kernel
theorem d_M_take_30 : decode b_M_take 30 = .ok (.iload 4, 2) := by decide +kernel
theorem d_M_take_32 : decode b_M_take 32 = .ok (.imul, 1) := by decide +kernel
theorem d_M_take_33 : decode b_M_take 33 = .ok (.iconst 1, 1) := by decide +kernel
theorem d_M_take_34 : decode b_M_take 34 = .ok (.iadd, 1) := by decide +kernel
theorem d_M_take_35 : decode b_M_take 35 = .ok (.iload_n 2, 1) := by decide +kernel
theorem d_M_take_36 : decode b_M_take 36 = .ok (.iastore, 1) := by decide +kernel
theorem d_M_take_37 : decode b_M_take 37 = .ok (.aload_n 0, 1) := by decide +kernel
theorem d_M_take_38 : decode b_M_take 38 = .ok (.getfield 31, 3) := by decide +kernel
theorem d_M_take_41 : decode b_M_take 41 = .ok (.iconst 4, 1) := by decide +kernel
theorem d_M_take_42 : decode b_M_take 42 = .ok (.iload 4, 2) := by decide +kernel
theorem d_M_take_44 : decode b_M_take 44 = .ok (.imul, 1) := by decide +kernel
theorem d_M_take_45 : decode b_M_take 45 = .ok (.iconst 2, 1) := by decide +kernel
theorem d_M_take_46 : decode b_M_take 46 = .ok (.iadd, 1) := by decide +kernel
theorem d_M_take_47 : decode b_M_take 47 = .ok (.iload_n 3, 1) := by decide +kernel
theorem d_M_take_48 : decode b_M_take 48 = .ok (.iastore, 1) := by decide +kernel
theorem d_M_take_49 : decode b_M_take 49 = .ok (.aload_n 0, 1) := by decide +kernel
theorem d_M_take_50 : decode b_M_take 50 = .ok (.getfield 31, 3) := by decide +kernel
theorem d_M_take_53 : decode b_M_take 53 = .ok (.iconst 4, 1) := by decide +kernel
theorem d_M_take_54 : decode b_M_take 54 = .ok (.iload 4, 2) := by decide +kernel
theorem d_M_take_56 : decode b_M_take 56 = .ok (.imul, 1) := by decide +kernel
theorem d_M_take_57 : decode b_M_take 57 = .ok (.iconst 3, 1) := by decide +kernel
theorem d_M_take_58 : decode b_M_take 58 = .ok (.iadd, 1) := by decide +kernel
theorem d_M_take_59 : decode b_M_take 59 = .ok (.iload 4, 2) := by decide +kernel
theorem d_M_take_61 : decode b_M_take 61 = .ok (.ifCond .ne (9), 3) := by decide +kernel
theorem d_M_take_64 : decode b_M_take 64 = .ok (.sipush 7989, 3) := by decide +kernel
theorem d_M_take_67 : decode b_M_take 67 = .ok (.goto (18), 3) := by decide +kernel
theorem d_M_take_70 : decode b_M_take 70 = .ok (.aload_n 0, 1) := by decide +kernel
theorem d_M_take_71 : decode b_M_take 71 = .ok (.aload_n 0, 1) := by decide +kernel
theorem d_M_take_72 : decode b_M_take 72 = .ok (.getfield 31, 3) := by decide +kernel
theorem d_M_take_75 : decode b_M_take 75 = .ok (.iconst 4, 1) := by decide +kernel
theorem d_M_take_76 : decode b_M_take 76 = .ok (.iload 4, 2) := by decide +kernel
theorem d_M_take_78 : decode b_M_take 78 = .ok (.imul, 1) := by decide +kernel
theorem d_M_take_79 : decode b_M_take 79 = .ok (.iconst 4, 1) := by decide +kernel
theorem d_M_take_80 : decode b_M_take 80 = .ok (.isub, 1) := by decide +kernel
theorem d_M_take_81 : decode b_M_take 81 = .ok (.iconst 4, 1) := by decide +kernel
theorem d_M_take_82 : decode b_M_take 82 = .ok (.invokevirtual 76, 3) := by decide +kernel
theorem d_M_take_85 : decode b_M_take 85 = .ok (.iastore, 1) := by decide +kernel
theorem d_M_take_86 : decode b_M_take 86 = .ok (.iload 4, 2) := by decide +kernel
theorem d_M_take_88 : decode b_M_take 88 = .ok (.iconst 3, 1) := by decide +kernel
theorem d_M_take_89 : decode b_M_take 89 = .ok (.irem, 1) := by decide +kernel
theorem d_M_take_90 : decode b_M_take 90 = .ok (.iconst 2, 1) := by decide +kernel
theorem d_M_take_91 : decode b_M_take 91 = .ok (.if_icmp .ge (15), 3) := by decide +kernel
theorem d_M_take_94 : decode b_M_take 94 = .ok (.aload_n 0, 1) := by decide +kernel
theorem d_M_take_95 : decode b_M_take 95 = .ok (.dup, 1) := by decide +kernel
theorem d_M_take_96 : decode b_M_take 96 = .ok (.getfield 52, 3) := by decide +kernel
theorem d_M_take_99 : decode b_M_take 99 = .ok (.iconst 1, 1) := by decide +kernel
theorem d_M_take_100 : decode b_M_take 100 = .ok (.iadd, 1) := by decide +kernel
theorem d_M_take_101 : decode b_M_take 101 = .ok (.putfield 52, 3) := by decide +kernel
theorem d_M_take_104 : decode b_M_take 104 = .ok (.iconst 0, 1) := by decide +kernel
theorem d_M_take_105 : decode b_M_take 105 = .ok (.ireturn, 1) := by decide +kernel
theorem d_M_take_106 : decode b_M_take 106 = .ok (.aload_n 0, 1) := by decide +kernel
theorem d_M_take_107 : decode b_M_take 107 = .ok (.iload 4, 2) := by decide +kernel
theorem d_M_take_109 : decode b_M_take 109 = .ok (.iconst 3, 1) := by decide +kernel
theorem d_M_take_110 : decode b_M_take 110 = .ok (.idiv, 1) := by decide +kernel
theorem d_M_take_111 : decode b_M_take 111 = .ok (.iload 4, 2) := by decide +kernel
theorem d_M_take_113 : decode b_M_take 113 = .ok (.iconst 1, 1) := by decide +kernel
theorem d_M_take_114 : decode b_M_take 114 = .ok (.iadd, 1) := by decide +kernel
theorem d_M_take_115 : decode b_M_take 115 = .ok (.invokevirtual 134, 3) := by decide +kernel
theorem d_M_take_118 : decode b_M_take 118 = .ok (.istore 5, 2) := by decide +kernel
theorem d_M_take_120 : decode b_M_take 120 = .ok (.iload 5, 2) := by decide +kernel
theorem d_M_take_122 : decode b_M_take 122 = .ok (.ifCond .eq (6), 3) := by decide +kernel
theorem d_M_take_125 : decode b_M_take 125 = .ok (.iload 5, 2) := by decide +kernel
theorem d_M_take_127 : decode b_M_take 127 = .ok (.ireturn, 1) := by decide +kernel
theorem d_M_take_128 : decode b_M_take 128 = .ok (.aload_n 0, 1) := by decide +kernel
theorem d_M_take_129 : decode b_M_take 129 = .ok (.dup, 1) := by decide +kernel
theorem d_M_take_130 : decode b_M_take 130 = .ok (.getfield 52, 3) := by decide +kernel
theorem d_M_take_133 : decode b_M_take 133 = .ok (.iconst 1, 1) := by decide +kernel
theorem d_M_take_134 : decode b_M_take 134 = .ok (.iadd, 1) := by decide +kernel
theorem d_M_take_135 : decode b_M_take 135 = .ok (.putfield 52, 3) := by decide +kernel
theorem d_M_take_138 : decode b_M_take 138 = .ok (.aload_n 0, 1) := by decide +kernel
theorem d_M_take_139 : decode b_M_take 139 = .ok (.getfield 37, 3) := by decide +kernel
theorem d_M_take_142 : decode b_M_take 142 = .ok (.iload 4, 2) := by decide +kernel
theorem d_M_take_144 : decode b_M_take 144 = .ok (.iconst 3, 1) := by decide +kernel
theorem d_M_take_145 : decode b_M_take 145 = .ok (.idiv, 1) := by decide +kernel
theorem d_M_take_146 : decode b_M_take 146 = .ok (.iconst 3, 1) := by decide +kernel
theorem d_M_take_147 : decode b_M_take 147 = .ok (.iastore, 1) := by decide +kernel
theorem d_M_take_148 : decode b_M_take 148 = .ok (.iconst 0, 1) := by decide +kernel
theorem d_M_take_149 : decode b_M_take 149 = .ok (.ireturn, 1) := by decide +kernel
theorem d_M_axle_0 : decode b_M_axle 0 = .ok (.aload_n 0, 1) := by decide +kernel
theorem d_M_axle_1 : decode b_M_axle 1 = .ok (.iconst 1, 1) := by decide +kernel
theorem d_M_axle_2 : decode b_M_axle 2 = .ok (.iload_n 1, 1) := by decide +kernel
theorem d_M_axle_3 : decode b_M_axle 3 = .ok (.iconst 1, 1) := by decide +kernel
theorem d_M_axle_4 : decode b_M_axle 4 = .ok (.sipush 1200, 3) := by decide +kernel
theorem d_M_axle_7 : decode b_M_axle 7 = .ok (.invokestatic 130, 3) := by decide +kernel
theorem d_M_axle_10 : decode b_M_axle 10 = .ok (.ifCond .ne (7), 3) := by decide +kernel
theorem d_M_axle_13 : decode b_M_axle 13 = .ok (.iconst 1, 1) := by decide +kernel
theorem d_M_axle_14 : decode b_M_axle 14 = .ok (.goto (4), 3) := by decide +kernel
theorem d_M_axle_17 : decode b_M_axle 17 = .ok (.iconst 0, 1) := by decide +kernel
theorem d_M_axle_18 : decode b_M_axle 18 = .ok (.invokevirtual 137, 3) := by decide +kernel
theorem d_M_axle_21 : decode b_M_axle 21 = .ok (.ifCond .ne (32), 3) := by decide +kernel
theorem d_M_axle_24 : decode b_M_axle 24 = .ok (.aload_n 0, 1) := by decide +kernel
theorem d_M_axle_25 : decode b_M_axle 25 = .ok (.iconst 2, 1) := by decide +kernel
theorem d_M_axle_26 : decode b_M_axle 26 = .ok (.aload_n 0, 1) := by decide +kernel
theorem d_M_axle_27 : decode b_M_axle 27 = .ok (.getfield 23, 3) := by decide +kernel
theorem d_M_axle_30 : decode b_M_axle 30 = .ok (.ifCond .eq (12), 3) := by decide +kernel
theorem d_M_axle_33 : decode b_M_axle 33 = .ok (.aload_n 0, 1) := by decide +kernel
theorem d_M_axle_34 : decode b_M_axle 34 = .ok (.getfield 58, 3) := by decide +kernel
theorem d_M_axle_37 : decode b_M_axle 37 = .ok (.bipush 9, 2) := by decide +kernel
theorem d_M_axle_39 : decode b_M_axle 39 = .ok (.if_icmp .ne (7), 3) := by decide +kernel
theorem d_M_axle_42 : decode b_M_axle 42 = .ok (.iconst 1, 1) := by decide +kernel
theorem d_M_axle_43 : decode b_M_axle 43 = .ok (.goto (4), 3) := by decide +kernel
theorem d_M_axle_46 : decode b_M_axle 46 = .ok (.iconst 0, 1) := by decide +kernel
theorem d_M_axle_47 : decode b_M_axle 47 = .ok (.invokevirtual 137, 3) := by decide +kernel
theorem d_M_axle_50 : decode b_M_axle 50 = .ok (.ifCond .eq (5), 3) := by decide +kernel
theorem d_M_axle_53 : decode b_M_axle 53 = .ok (.iconst 0, 1) := by decide +kernel
theorem d_M_axle_54 : decode b_M_axle 54 = .ok (.ireturn, 1) := by decide +kernel
theorem d_M_axle_55 : decode b_M_axle 55 = .ok (.aload_n 0, 1) := by decide +kernel
theorem d_M_axle_56 : decode b_M_axle 56 = .ok (.dup, 1) := by decide +kernel
theorem d_M_axle_57 : decode b_M_axle 57 = .ok (.getfield 58, 3) := by decide +kernel
theorem d_M_axle_60 : decode b_M_axle 60 = .ok (.iconst 1, 1) := by decide +kernel
theorem d_M_axle_61 : decode b_M_axle 61 = .ok (.iadd, 1) := by decide +kernel
theorem d_M_axle_62 : decode b_M_axle 62 = .ok (.putfield 58, 3) := by decide +kernel
theorem d_M_axle_65 : decode b_M_axle 65 = .ok (.aload_n 0, 1) := by decide +kernel
theorem d_M_axle_66 : decode b_M_axle 66 = .ok (.dup, 1) := by decide +kernel
theorem d_M_axle_67 : decode b_M_axle 67 = .ok (.getfield 61, 3) := by decide +kernel
theorem d_M_axle_70 : decode b_M_axle 70 = .ok (.iload_n 1, 1) := by decide +kernel
theorem d_M_axle_71 : decode b_M_axle 71 = .ok (.iadd, 1) := by decide +kernel
theorem d_M_axle_72 : decode b_M_axle 72 = .ok (.putfield 61, 3) := by decide +kernel
theorem d_M_axle_75 : decode b_M_axle 75 = .ok (.aload_n 0, 1) := by decide +kernel
theorem d_M_axle_76 : decode b_M_axle 76 = .ok (.getfield 58, 3) := by decide +kernel
theorem d_M_axle_79 : decode b_M_axle 79 = .ok (.ireturn, 1) := by decide +kernel
theorem d_M_close_0 : decode b_M_close 0 = .ok (.iload_n 2, 1) := by decide +kernel
theorem d_M_close_1 : decode b_M_close 1 = .ok (.iconst 0, 1) := by decide +kernel
theorem d_M_close_2 : decode b_M_close 2 = .ok (.ldc 141, 2) := by decide +kernel
theorem d_M_close_4 : decode b_M_close 4 = .ok (.invokestatic 130, 3) := by decide +kernel
theorem d_M_close_7 : decode b_M_close 7 = .ok (.ifCond .eq (28), 3) := by decide +kernel
theorem d_M_close_10 : decode b_M_close 10 = .ok (.iload_n 3, 1) := by decide +kernel
theorem d_M_close_11 : decode b_M_close 11 = .ok (.iconst 0, 1) := by decide +kernel
theorem d_M_close_12 : decode b_M_close 12 = .ok (.bipush 39, 2) := by decide +kernel
theorem d_M_close_14 : decode b_M_close 14 = .ok (.invokestatic 130, 3) := by decide +kernel
theorem d_M_close_17 : decode b_M_close 17 = .ok (.ifCond .eq (18), 3) := by decide +kernel
theorem d_M_close_20 : decode b_M_close 20 = .ok (.iload 4, 2) := by decide +kernel
theorem d_M_close_22 : decode b_M_close 22 = .ok (.iconst 0, 1) := by decide +kernel
theorem d_M_close_23 : decode b_M_close 23 = .ok (.ldc 142, 2) := by decide +kernel
theorem d_M_close_25 : decode b_M_close 25 = .ok (.invokestatic 130, 3) := by decide +kernel
theorem d_M_close_28 : decode b_M_close 28 = .ok (.ifCond .eq (7), 3) := by decide +kernel
theorem d_M_close_31 : decode b_M_close 31 = .ok (.iconst 1, 1) := by decide +kernel
theorem d_M_close_32 : decode b_M_close 32 = .ok (.goto (4), 3) := by decide +kernel
theorem d_M_close_35 : decode b_M_close 35 = .ok (.iconst 0, 1) := by decide +kernel
theorem d_M_close_36 : decode b_M_close 36 = .ok (.istore 5, 2) := by decide +kernel
theorem d_M_close_38 : decode b_M_close 38 = .ok (.aload_n 0, 1) := by decide +kernel
theorem d_M_close_39 : decode b_M_close 39 = .ok (.iconst 1, 1) := by decide +kernel
theorem d_M_close_40 : decode b_M_close 40 = .ok (.iload 5, 2) := by decide +kernel
theorem d_M_close_42 : decode b_M_close 42 = .ok (.ifCond .ne (7), 3) := by decide +kernel
theorem d_M_close_45 : decode b_M_close 45 = .ok (.iconst 1, 1) := by decide +kernel
theorem d_M_close_46 : decode b_M_close 46 = .ok (.goto (4), 3) := by decide +kernel
theorem d_M_close_49 : decode b_M_close 49 = .ok (.iconst 0, 1) := by decide +kernel
theorem d_M_close_50 : decode b_M_close 50 = .ok (.invokevirtual 137, 3) := by decide +kernel
theorem d_M_close_53 : decode b_M_close 53 = .ok (.ifCond .ne (23), 3) := by decide +kernel
theorem d_M_close_56 : decode b_M_close 56 = .ok (.aload_n 0, 1) := by decide +kernel
theorem d_M_close_57 : decode b_M_close 57 = .ok (.iconst 2, 1) := by decide +kernel
theorem d_M_close_58 : decode b_M_close 58 = .ok (.aload_n 0, 1) := by decide +kernel
theorem d_M_close_59 : decode b_M_close 59 = .ok (.getfield 23, 3) := by decide +kernel
theorem d_M_close_62 : decode b_M_close 62 = .ok (.ifCond .ne (7), 3) := by decide +kernel
theorem d_M_close_65 : decode b_M_close 65 = .ok (.iconst 1, 1) := by decide +kernel
theorem d_M_close_66 : decode b_M_close 66 = .ok (.goto (4), 3) := by decide +kernel
theorem d_M_close_69 : decode b_M_close 69 = .ok (.iconst 0, 1) := by decide +kernel
theorem d_M_close_70 : decode b_M_close 70 = .ok (.invokevirtual 137, 3) := by decide +kernel
theorem d_M_close_73 : decode b_M_close 73 = .ok (.ifCond .eq (5), 3) := by decide +kernel
theorem d_M_close_76 : decode b_M_close 76 = .ok (.iconst 0, 1) := by decide +kernel
theorem d_M_close_77 : decode b_M_close 77 = .ok (.ireturn, 1) := by decide +kernel
theorem d_M_close_78 : decode b_M_close 78 = .ok (.aload_n 0, 1) := by decide +kernel
theorem d_M_close_79 : decode b_M_close 79 = .ok (.getfield 58, 3) := by decide +kernel
theorem d_M_close_82 : decode b_M_close 82 = .ok (.ifCond .eq (32), 3) := by decide +kernel
theorem d_M_close_85 : decode b_M_close 85 = .ok (.aload_n 0, 1) := by decide +kernel
theorem d_M_close_86 : decode b_M_close 86 = .ok (.getfield 20, 3) := by decide +kernel
theorem d_M_close_89 : decode b_M_close 89 = .ok (.iload_n 3, 1) := by decide +kernel
theorem d_M_close_90 : decode b_M_close 90 = .ok (.baload, 1) := by decide +kernel
theorem d_M_close_91 : decode b_M_close 91 = .ok (.ifCond .eq (23), 3) := by decide +kernel
theorem d_M_close_94 : decode b_M_close 94 = .ok (.iload_n 2, 1) := by decide +kernel
theorem d_M_close_95 : decode b_M_close 95 = .ok (.bipush 20, 2) := by decide +kernel
theorem d_M_close_97 : decode b_M_close 97 = .ok (.aload_n 0, 1) := by decide +kernel
theorem d_M_close_98 : decode b_M_close 98 = .ok (.getfield 61, 3) := by decide +kernel
theorem d_M_close_101 : decode b_M_close 101 = .ok (.imul, 1) := by decide +kernel
theorem d_M_close_102 : decode b_M_close 102 = .ok (.if_icmp .gt (12), 3) := by decide +kernel
theorem d_M_close_105 : decode b_M_close 105 = .ok (.aload_n 0, 1) := by decide +kernel
theorem d_M_close_106 : decode b_M_close 106 = .ok (.getfield 52, 3) := by decide +kernel
theorem d_M_close_109 : decode b_M_close 109 = .ok (.bipush 48, 2) := by decide +kernel
theorem d_M_close_111 : decode b_M_close 111 = .ok (.if_icmp .ne (5), 3) := by decide +kernel
theorem d_M_close_114 : decode b_M_close 114 = .ok (.iconst 0, 1) := by decide +kernel
theorem d_M_close_115 : decode b_M_close 115 = .ok (.ireturn, 1) := by decide +kernel
theorem d_M_close_116 : decode b_M_close 116 = .ok (.aload_n 0, 1) := by decide +kernel
theorem d_M_close_117 : decode b_M_close 117 = .ok (.iload_n 1, 1) := by decide +kernel
theorem d_M_close_118 : decode b_M_close 118 = .ok (.ldc 143, 2) := by decide +kernel
theorem d_M_close_120 : decode b_M_close 120 = .ok (.aload_n 0, 1) := by decide +kernel
theorem d_M_close_121 : decode b_M_close 121 = .ok (.getfield 61, 3) := by decide +kernel
theorem d_M_close_124 : decode b_M_close 124 = .ok (.imul, 1) := by decide +kernel
theorem d_M_close_125 : decode b_M_close 125 = .ok (.iload_n 2, 1) := by decide +kernel
theorem d_M_close_126 : decode b_M_close 126 = .ok (.iadd, 1) := by decide +kernel
theorem d_M_close_127 : decode b_M_close 127 = .ok (.ldc 144, 2) := by decide +kernel
theorem d_M_close_129 : decode b_M_close 129 = .ok (.iload_n 3, 1) := by decide +kernel
theorem d_M_close_130 : decode b_M_close 130 = .ok (.imul, 1) := by decide +kernel
theorem d_M_close_131 : decode b_M_close 131 = .ok (.iload 4, 2) := by decide +kernel
theorem d_M_close_133 : decode b_M_close 133 = .ok (.iadd, 1) := by decide +kernel
theorem d_M_close_134 : decode b_M_close 134 = .ok (.invokevirtual 145, 3) := by decide +kernel
theorem d_M_close_137 : decode b_M_close 137 = .ok (.istore 6, 2) := by decide +kernel
theorem d_M_close_139 : decode b_M_close 139 = .ok (.iload 6, 2) := by decide +kernel
theorem d_M_close_141 : decode b_M_close 141 = .ok (.ifCond .eq (6), 3) := by decide +kernel
theorem d_M_close_144 : decode b_M_close 144 = .ok (.iload 6, 2) := by decide +kernel
theorem d_M_close_146 : decode b_M_close 146 = .ok (.ireturn, 1) := by decide +kernel
theorem d_M_close_147 : decode b_M_close 147 = .ok (.aload_n 0, 1) := by decide +kernel
theorem d_M_close_148 : decode b_M_close 148 = .ok (.iconst 0, 1) := by decide +kernel
theorem d_M_close_149 : decode b_M_close 149 = .ok (.putfield 58, 3) := by decide +kernel
theorem d_M_close_152 : decode b_M_close 152 = .ok (.aload_n 0, 1) := by decide +kernel
theorem d_M_close_153 : decode b_M_close 153 = .ok (.iconst 0, 1) := by decide +kernel
theorem d_M_close_154 : decode b_M_close 154 = .ok (.putfield 61, 3) := by decide +kernel
theorem d_M_close_157 : decode b_M_close 157 = .ok (.aload_n 0, 1) := by decide +kernel
theorem d_M_close_158 : decode b_M_close 158 = .ok (.invokevirtual 149, 3) := by decide +kernel
theorem d_M_close_161 : decode b_M_close 161 = .ok (.ireturn, 1) := by decide +kernel
theorem d_M_annul_0 : decode b_M_annul 0 = .ok (.aload_n 0, 1) := by decide +kernel
theorem d_M_annul_1 : decode b_M_annul 1 = .ok (.iconst 1, 1) := by decide +kernel
theorem d_M_annul_2 : decode b_M_annul 2 = .ok (.iload_n 2, 1) := by decide +kernel
theorem d_M_annul_3 : decode b_M_annul 3 = .ok (.iconst 0, 1) := by decide +kernel
theorem d_M_annul_4 : decode b_M_annul 4 = .ok (.iconst 3, 1) := by decide +kernel
theorem d_M_annul_5 : decode b_M_annul 5 = .ok (.invokestatic 130, 3) := by decide +kernel
theorem d_M_annul_8 : decode b_M_annul 8 = .ok (.ifCond .ne (7), 3) := by decide +kernel
theorem d_M_annul_11 : decode b_M_annul 11 = .ok (.iconst 1, 1) := by decide +kernel
theorem d_M_annul_12 : decode b_M_annul 12 = .ok (.goto (4), 3) := by decide +kernel
theorem d_M_annul_15 : decode b_M_annul 15 = .ok (.iconst 0, 1) := by decide +kernel
theorem d_M_annul_16 : decode b_M_annul 16 = .ok (.invokevirtual 137, 3) := by decide +kernel
theorem d_M_annul_19 : decode b_M_annul 19 = .ok (.ifCond .ne (23), 3) := by decide +kernel
theorem d_M_annul_22 : decode b_M_annul 22 = .ok (.aload_n 0, 1) := by decide +kernel
theorem d_M_annul_23 : decode b_M_annul 23 = .ok (.iconst 2, 1) := by decide +kernel
theorem d_M_annul_24 : decode b_M_annul 24 = .ok (.aload_n 0, 1) := by decide +kernel
theorem d_M_annul_25 : decode b_M_annul 25 = .ok (.getfield 23, 3) := by decide +kernel
theorem d_M_annul_28 : decode b_M_annul 28 = .ok (.ifCond .ne (7), 3) := by decide +kernel
theorem d_M_annul_31 : decode b_M_annul 31 = .ok (.iconst 1, 1) := by decide +kernel
theorem d_M_annul_32 : decode b_M_annul 32 = .ok (.goto (4), 3) := by decide +kernel
theorem d_M_annul_35 : decode b_M_annul 35 = .ok (.iconst 0, 1) := by decide +kernel
theorem d_M_annul_36 : decode b_M_annul 36 = .ok (.invokevirtual 137, 3) := by decide +kernel
theorem d_M_annul_39 : decode b_M_annul 39 = .ok (.ifCond .eq (5), 3) := by decide +kernel
theorem d_M_annul_42 : decode b_M_annul 42 = .ok (.iconst 0, 1) := by decide +kernel
theorem d_M_annul_43 : decode b_M_annul 43 = .ok (.ireturn, 1) := by decide +kernel
theorem d_M_annul_44 : decode b_M_annul 44 = .ok (.iload_n 1, 1) := by decide +kernel
theorem d_M_annul_45 : decode b_M_annul 45 = .ok (.iconst 1, 1) := by decide +kernel
theorem d_M_annul_46 : decode b_M_annul 46 = .ok (.if_icmp .lt (28), 3) := by decide +kernel
theorem d_M_annul_49 : decode b_M_annul 49 = .ok (.aload_n 0, 1) := by decide +kernel
theorem d_M_annul_50 : decode b_M_annul 50 = .ok (.iload_n 1, 1) := by decide +kernel
theorem d_M_annul_51 : decode b_M_annul 51 = .ok (.invokevirtual 127, 3) := by decide +kernel
theorem d_M_annul_54 : decode b_M_annul 54 = .ok (.ifCond .lt (20), 3) := by decide +kernel
theorem d_M_annul_57 : decode b_M_annul 57 = .ok (.aload_n 0, 1) := by decide +kernel
theorem d_M_annul_58 : decode b_M_annul 58 = .ok (.iload_n 1, 1) := by decide +kernel
theorem d_M_annul_59 : decode b_M_annul 59 = .ok (.invokevirtual 152, 3) := by decide +kernel
theorem d_M_annul_62 : decode b_M_annul 62 = .ok (.ifCond .gt (12), 3) := by decide +kernel
theorem d_M_annul_65 : decode b_M_annul 65 = .ok (.aload_n 0, 1) := by decide +kernel
theorem d_M_annul_66 : decode b_M_annul 66 = .ok (.getfield 52, 3) := by decide +kernel
theorem d_M_annul_69 : decode b_M_annul 69 = .ok (.bipush 48, 2) := by decide +kernel
theorem d_M_annul_71 : decode b_M_annul 71 = .ok (.if_icmp .ne (5), 3) := by decide +kernel
theorem d_M_annul_74 : decode b_M_annul 74 = .ok (.iconst 0, 1) := by decide +kernel
theorem d_M_annul_75 : decode b_M_annul 75 = .ok (.ireturn, 1) := by decide +kernel
theorem d_M_annul_76 : decode b_M_annul 76 = .ok (.aload_n 0, 1) := by decide +kernel
theorem d_M_annul_77 : decode b_M_annul 77 = .ok (.iload_n 1, 1) := by decide +kernel
theorem d_M_annul_78 : decode b_M_annul 78 = .ok (.iload_n 2, 1) := by decide +kernel
theorem d_M_annul_79 : decode b_M_annul 79 = .ok (.ldc 155, 2) := by decide +kernel
theorem d_M_annul_81 : decode b_M_annul 81 = .ok (.invokevirtual 145, 3) := by decide +kernel
theorem d_M_annul_84 : decode b_M_annul 84 = .ok (.istore_n 3, 1) := by decide +kernel
theorem d_M_annul_85 : decode b_M_annul 85 = .ok (.iload_n 3, 1) := by decide +kernel
theorem d_M_annul_86 : decode b_M_annul 86 = .ok (.ifCond .ne (7), 3) := by decide +kernel
theorem d_M_annul_89 : decode b_M_annul 89 = .ok (.iconst 1, 1) := by decide +kernel
theorem d_M_annul_90 : decode b_M_annul 90 = .ok (.goto (4), 3) := by decide +kernel
theorem d_M_annul_93 : decode b_M_annul 93 = .ok (.iload_n 3, 1) := by decide +kernel
theorem d_M_annul_94 : decode b_M_annul 94 = .ok (.ireturn, 1) := by decide +kernel
theorem d_M_sync_0 : decode b_M_sync 0 = .ok (.aload_n 0, 1) := by decide +kernel
theorem d_M_sync_1 : decode b_M_sync 1 = .ok (.iconst 1, 1) := by decide +kernel
theorem d_M_sync_2 : decode b_M_sync 2 = .ok (.aload_n 0, 1) := by decide +kernel
theorem d_M_sync_3 : decode b_M_sync 3 = .ok (.getfield 23, 3) := by decide +kernel
theorem d_M_sync_6 : decode b_M_sync 6 = .ok (.ifCond .ne (7), 3) := by decide +kernel
theorem d_M_sync_9 : decode b_M_sync 9 = .ok (.iconst 1, 1) := by decide +kernel
theorem d_M_sync_10 : decode b_M_sync 10 = .ok (.goto (4), 3) := by decide +kernel
theorem d_M_sync_13 : decode b_M_sync 13 = .ok (.iconst 0, 1) := by decide +kernel
theorem d_M_sync_14 : decode b_M_sync 14 = .ok (.invokevirtual 137, 3) := by decide +kernel
theorem d_M_sync_17 : decode b_M_sync 17 = .ok (.ifCond .eq (5), 3) := by decide +kernel
theorem d_M_sync_20 : decode b_M_sync 20 = .ok (.iconst 0, 1) := by decide +kernel
theorem d_M_sync_21 : decode b_M_sync 21 = .ok (.ireturn, 1) := by decide +kernel
theorem d_M_sync_22 : decode b_M_sync 22 = .ok (.aload_n 0, 1) := by decide +kernel
theorem d_M_sync_23 : decode b_M_sync 23 = .ok (.invokevirtual 156, 3) := by decide +kernel
theorem d_M_sync_26 : decode b_M_sync 26 = .ok (.aload_n 0, 1) := by decide +kernel
theorem d_M_sync_27 : decode b_M_sync 27 = .ok (.getfield 52, 3) := by decide +kernel
theorem d_M_sync_30 : decode b_M_sync 30 = .ok (.if_icmp .ne (5), 3) := by decide +kernel
theorem d_M_sync_33 : decode b_M_sync 33 = .ok (.iconst 1, 1) := by decide +kernel
theorem d_M_sync_34 : decode b_M_sync 34 = .ok (.ireturn, 1) := by decide +kernel
theorem d_M_sync_35 : decode b_M_sync 35 = .ok (.aload_n 0, 1) := by decide +kernel
theorem d_M_sync_36 : decode b_M_sync 36 = .ok (.getfield 52, 3) := by decide +kernel
theorem d_M_sync_39 : decode b_M_sync 39 = .ok (.iconst 1, 1) := by decide +kernel
theorem d_M_sync_40 : decode b_M_sync 40 = .ok (.isub, 1) := by decide +kernel
theorem d_M_sync_41 : decode b_M_sync 41 = .ok (.iconst 3, 1) := by decide +kernel
theorem d_M_sync_42 : decode b_M_sync 42 = .ok (.idiv, 1) := by decide +kernel
theorem d_M_sync_43 : decode b_M_sync 43 = .ok (.istore_n 1, 1) := by decide +kernel
theorem d_M_sync_44 : decode b_M_sync 44 = .ok (.aload_n 0, 1) := by decide +kernel
theorem d_M_sync_45 : decode b_M_sync 45 = .ok (.iload_n 1, 1) := by decide +kernel
theorem d_M_sync_46 : decode b_M_sync 46 = .ok (.aload_n 0, 1) := by decide +kernel
theorem d_M_sync_47 : decode b_M_sync 47 = .ok (.getfield 52, 3) := by decide +kernel
theorem d_M_sync_50 : decode b_M_sync 50 = .ok (.invokevirtual 134, 3) := by decide +kernel
theorem d_M_sync_53 : decode b_M_sync 53 = .ok (.istore_n 2, 1) := by decide +kernel
theorem d_M_sync_54 : decode b_M_sync 54 = .ok (.iload_n 2, 1) := by decide +kernel
theorem d_M_sync_55 : decode b_M_sync 55 = .ok (.ifCond .eq (5), 3) := by decide +kernel
theorem d_M_sync_58 : decode b_M_sync 58 = .ok (.iload_n 2, 1) := by decide +kernel
