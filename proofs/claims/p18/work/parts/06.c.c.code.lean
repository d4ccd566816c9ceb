theorem d_N_addNumber_48 : decode b_N_addNumber 48 = .ok (.iload 5, 2) := by decide +kernel
theorem d_N_addNumber_50 : decode b_N_addNumber 50 = .ok (.aload_n 0, 1) := by decide +kernel
theorem d_N_addNumber_51 : decode b_N_addNumber 51 = .ok (.getfield 13, 3) := by decide +kernel
theorem d_N_addNumber_54 : decode b_N_addNumber 54 = .ok (.if_icmp .lt (33), 3) := by decide +kernel
theorem d_N_addNumber_57 : decode b_N_addNumber 57 = .ok (.aload_n 0, 1) := by decide +kernel
theorem d_N_addNumber_58 : decode b_N_addNumber 58 = .ok (.getfield 9, 3) := by decide +kernel
theorem d_N_addNumber_61 : decode b_N_addNumber 61 = .ok (.iload 5, 2) := by decide +kernel
theorem d_N_addNumber_63 : decode b_N_addNumber 63 = .ok (.ldc2_w 44, 3) := by decide +kernel
theorem d_N_addNumber_66 : decode b_N_addNumber 66 = .ok (.lload_n 2, 1) := by decide +kernel
theorem d_N_addNumber_67 : decode b_N_addNumber 67 = .ok (.ldc2_w 46, 3) := by decide +kernel
theorem d_N_addNumber_70 : decode b_N_addNumber 70 = .ok (.lrem, 1) := by decide +kernel
theorem d_N_addNumber_71 : decode b_N_addNumber 71 = .ok (.ladd, 1) := by decide +kernel
theorem d_N_addNumber_72 : decode b_N_addNumber 72 = .ok (.l2i, 1) := by decide +kernel
theorem d_N_addNumber_73 : decode b_N_addNumber 73 = .ok (.i2b, 1) := by decide +kernel
theorem d_N_addNumber_74 : decode b_N_addNumber 74 = .ok (.bastore, 1) := by decide +kernel
theorem d_N_addNumber_75 : decode b_N_addNumber 75 = .ok (.lload_n 2, 1) := by decide +kernel
theorem d_N_addNumber_76 : decode b_N_addNumber 76 = .ok (.ldc2_w 46, 3) := by decide +kernel
theorem d_N_addNumber_79 : decode b_N_addNumber 79 = .ok (.ldiv, 1) := by decide +kernel
theorem d_N_addNumber_80 : decode b_N_addNumber 80 = .ok (.lstore_n 2, 1) := by decide +kernel
theorem d_N_addNumber_81 : decode b_N_addNumber 81 = .ok (.iinc 5 (-1), 3) := by decide +kernel
theorem d_N_addNumber_84 : decode b_N_addNumber 84 = .ok (.goto (-36), 3) := by decide +kernel
theorem d_N_addNumber_87 : decode b_N_addNumber 87 = .ok (.aload_n 0, 1) := by decide +kernel
theorem d_N_addNumber_88 : decode b_N_addNumber 88 = .ok (.dup, 1) := by decide +kernel
theorem d_N_addNumber_89 : decode b_N_addNumber 89 = .ok (.getfield 13, 3) := by decide +kernel
theorem d_N_addNumber_92 : decode b_N_addNumber 92 = .ok (.iload 4, 2) := by decide +kernel
theorem d_N_addNumber_94 : decode b_N_addNumber 94 = .ok (.iadd, 1) := by decide +kernel
theorem d_N_addNumber_95 : decode b_N_addNumber 95 = .ok (.putfield 13, 3) := by decide +kernel
theorem d_N_addNumber_98 : decode b_N_addNumber 98 = .ok (.return_, 1) := by decide +kernel
theorem d_N_fillFrom_0 : decode b_N_fillFrom 0 = .ok (.aload_n 0, 1) := by decide +kernel
theorem d_N_fillFrom_1 : decode b_N_fillFrom 1 = .ok (.iconst 0, 1) := by decide +kernel
theorem d_N_fillFrom_2 : decode b_N_fillFrom 2 = .ok (.putfield 13, 3) := by decide +kernel
theorem d_N_fillFrom_5 : decode b_N_fillFrom 5 = .ok (.aload_n 0, 1) := by decide +kernel
theorem d_N_fillFrom_6 : decode b_N_fillFrom 6 = .ok (.iload_n 2, 1) := by decide +kernel
theorem d_N_fillFrom_7 : decode b_N_fillFrom 7 = .ok (.invokevirtual 17, 3) := by decide +kernel
theorem d_N_fillFrom_10 : decode b_N_fillFrom 10 = .ok (.aload_n 0, 1) := by decide +kernel
theorem d_N_fillFrom_11 : decode b_N_fillFrom 11 = .ok (.bipush 32, 2) := by decide +kernel
theorem d_N_fillFrom_13 : decode b_N_fillFrom 13 = .ok (.invokevirtual 21, 3) := by decide +kernel
theorem d_N_fillFrom_16 : decode b_N_fillFrom 16 = .ok (.aload_n 0, 1) := by decide +kernel
theorem d_N_fillFrom_17 : decode b_N_fillFrom 17 = .ok (.aload_n 1, 1) := by decide +kernel
theorem d_N_fillFrom_18 : decode b_N_fillFrom 18 = .ok (.iload_n 2, 1) := by decide +kernel
theorem d_N_fillFrom_19 : decode b_N_fillFrom 19 = .ok (.invokevirtual 24, 3) := by decide +kernel
theorem d_N_fillFrom_22 : decode b_N_fillFrom 22 = .ok (.invokevirtual 17, 3) := by decide +kernel
theorem d_N_fillFrom_25 : decode b_N_fillFrom 25 = .ok (.aload_n 0, 1) := by decide +kernel
theorem d_N_fillFrom_26 : decode b_N_fillFrom 26 = .ok (.bipush 32, 2) := by decide +kernel
theorem d_N_fillFrom_28 : decode b_N_fillFrom 28 = .ok (.invokevirtual 21, 3) := by decide +kernel
theorem d_N_fillFrom_31 : decode b_N_fillFrom 31 = .ok (.aload_n 0, 1) := by decide +kernel
theorem d_N_fillFrom_32 : decode b_N_fillFrom 32 = .ok (.aload_n 1, 1) := by decide +kernel
theorem d_N_fillFrom_33 : decode b_N_fillFrom 33 = .ok (.iload_n 2, 1) := by decide +kernel
theorem d_N_fillFrom_34 : decode b_N_fillFrom 34 = .ok (.invokevirtual 30, 3) := by decide +kernel
theorem d_N_fillFrom_37 : decode b_N_fillFrom 37 = .ok (.invokevirtual 17, 3) := by decide +kernel
theorem d_N_fillFrom_40 : decode b_N_fillFrom 40 = .ok (.aload_n 0, 1) := by decide +kernel
theorem d_N_fillFrom_41 : decode b_N_fillFrom 41 = .ok (.bipush 32, 2) := by decide +kernel
theorem d_N_fillFrom_43 : decode b_N_fillFrom 43 = .ok (.invokevirtual 21, 3) := by decide +kernel
theorem d_N_fillFrom_46 : decode b_N_fillFrom 46 = .ok (.aload_n 0, 1) := by decide +kernel
theorem d_N_fillFrom_47 : decode b_N_fillFrom 47 = .ok (.aload_n 1, 1) := by decide +kernel
theorem d_N_fillFrom_48 : decode b_N_fillFrom 48 = .ok (.iload_n 2, 1) := by decide +kernel
theorem d_N_fillFrom_49 : decode b_N_fillFrom 49 = .ok (.invokevirtual 33, 3) := by decide +kernel
theorem d_N_fillFrom_52 : decode b_N_fillFrom 52 = .ok (.invokevirtual 17, 3) := by decide +kernel
theorem d_N_fillFrom_55 : decode b_N_fillFrom 55 = .ok (.aload_n 1, 1) := by decide +kernel
theorem d_N_fillFrom_56 : decode b_N_fillFrom 56 = .ok (.iload_n 2, 1) := by decide +kernel
theorem d_N_fillFrom_57 : decode b_N_fillFrom 57 = .ok (.invokevirtual 36, 3) := by decide +kernel
theorem d_N_fillFrom_60 : decode b_N_fillFrom 60 = .ok (.ifCond .eq (15), 3) := by decide +kernel
theorem d_N_fillFrom_63 : decode b_N_fillFrom 63 = .ok (.aload_n 0, 1) := by decide +kernel
theorem d_N_fillFrom_64 : decode b_N_fillFrom 64 = .ok (.bipush 32, 2) := by decide +kernel
theorem d_N_fillFrom_66 : decode b_N_fillFrom 66 = .ok (.invokevirtual 21, 3) := by decide +kernel
theorem d_N_fillFrom_69 : decode b_N_fillFrom 69 = .ok (.aload_n 0, 1) := by decide +kernel
theorem d_N_fillFrom_70 : decode b_N_fillFrom 70 = .ok (.bipush 86, 2) := by decide +kernel
theorem d_N_fillFrom_72 : decode b_N_fillFrom 72 = .ok (.invokevirtual 21, 3) := by decide +kernel
theorem d_N_fillFrom_75 : decode b_N_fillFrom 75 = .ok (.aload_n 0, 1) := by decide +kernel
theorem d_N_fillFrom_76 : decode b_N_fillFrom 76 = .ok (.bipush 10, 2) := by decide +kernel
theorem d_N_fillFrom_78 : decode b_N_fillFrom 78 = .ok (.invokevirtual 21, 3) := by decide +kernel
theorem d_N_fillFrom_81 : decode b_N_fillFrom 81 = .ok (.return_, 1) := by decide +kernel
theorem d_R_requireArgument_0 : decode b_R_requireArgument 0 = .ok (.iload_n 0, 1) := by decide +kernel
theorem d_R_requireArgument_1 : decode b_R_requireArgument 1 = .ok (.ifCond .ne (11), 3) := by decide +kernel
theorem d_R_requireArgument_4 : decode b_R_requireArgument 4 = .ok (.new 210, 3) := by decide +kernel
theorem d_R_requireArgument_7 : decode b_R_requireArgument 7 = .ok (.dup, 1) := by decide +kernel
theorem d_R_requireArgument_8 : decode b_R_requireArgument 8 = .ok (.invokespecial 212, 3) := by decide +kernel
theorem d_R_requireArgument_11 : decode b_R_requireArgument 11 = .ok (.athrow, 1) := by decide +kernel
theorem d_R_requireArgument_12 : decode b_R_requireArgument 12 = .ok (.return_, 1) := by decide +kernel
theorem d_R_requireState_0 : decode b_R_requireState 0 = .ok (.iload_n 0, 1) := by decide +kernel
theorem d_R_requireState_1 : decode b_R_requireState 1 = .ok (.ifCond .ne (11), 3) := by decide +kernel
theorem d_R_requireState_4 : decode b_R_requireState 4 = .ok (.new 213, 3) := by decide +kernel
theorem d_R_requireState_7 : decode b_R_requireState 7 = .ok (.dup, 1) := by decide +kernel
theorem d_R_requireState_8 : decode b_R_requireState 8 = .ok (.invokespecial 215, 3) := by decide +kernel
theorem d_R_requireState_11 : decode b_R_requireState 11 = .ok (.athrow, 1) := by decide +kernel
theorem d_R_requireState_12 : decode b_R_requireState 12 = .ok (.return_, 1) := by decide +kernel
theorem d_R_requireIndex_0 : decode b_R_requireIndex 0 = .ok (.iload_n 0, 1) := by decide +kernel
theorem d_R_requireIndex_1 : decode b_R_requireIndex 1 = .ok (.ifCond .ne (11), 3) := by decide +kernel
theorem d_R_requireIndex_4 : decode b_R_requireIndex 4 = .ok (.new 216, 3) := by decide +kernel
theorem d_R_requireIndex_7 : decode b_R_requireIndex 7 = .ok (.dup, 1) := by decide +kernel
theorem d_R_requireIndex_8 : decode b_R_requireIndex 8 = .ok (.invokespecial 218, 3) := by decide +kernel
theorem d_R_requireIndex_11 : decode b_R_requireIndex 11 = .ok (.athrow, 1) := by decide +kernel
theorem d_R_requireIndex_12 : decode b_R_requireIndex 12 = .ok (.return_, 1) := by decide +kernel
theorem d_R_isProduct_0 : decode b_R_isProduct 0 = .ok (.iload_n 0, 1) := by decide +kernel
theorem d_R_isProduct_1 : decode b_R_isProduct 1 = .ok (.iconst 0, 1) := by decide +kernel
theorem d_R_isProduct_2 : decode b_R_isProduct 2 = .ok (.bipush 39, 2) := by decide +kernel
theorem d_R_isProduct_4 : decode b_R_isProduct 4 = .ok (.invokestatic 48, 3) := by decide +kernel
theorem d_R_isProduct_7 : decode b_R_isProduct 7 = .ok (.ireturn, 1) := by decide +kernel
theorem d_R_isPlace_0 : decode b_R_isPlace 0 = .ok (.iload_n 0, 1) := by decide +kernel
theorem d_R_isPlace_1 : decode b_R_isPlace 1 = .ok (.iconst 0, 1) := by decide +kernel
theorem d_R_isPlace_2 : decode b_R_isPlace 2 = .ok (.bipush 31, 2) := by decide +kernel
theorem d_R_isPlace_4 : decode b_R_isPlace 4 = .ok (.invokestatic 48, 3) := by decide +kernel
theorem d_R_isPlace_7 : decode b_R_isPlace 7 = .ok (.ifCond .eq (17), 3) := by decide +kernel
theorem d_R_isPlace_10 : decode b_R_isPlace 10 = .ok (.iload_n 1, 1) := by decide +kernel
theorem d_R_isPlace_11 : decode b_R_isPlace 11 = .ok (.iconst 0, 1) := by decide +kernel
theorem d_R_isPlace_12 : decode b_R_isPlace 12 = .ok (.bipush 15, 2) := by decide +kernel
theorem d_R_isPlace_14 : decode b_R_isPlace 14 = .ok (.invokestatic 48, 3) := by decide +kernel
theorem d_R_isPlace_17 : decode b_R_isPlace 17 = .ok (.ifCond .eq (7), 3) := by decide +kernel
theorem d_R_isPlace_20 : decode b_R_isPlace 20 = .ok (.iconst 1, 1) := by decide +kernel
theorem d_R_isPlace_21 : decode b_R_isPlace 21 = .ok (.goto (4), 3) := by decide +kernel
theorem d_R_isPlace_24 : decode b_R_isPlace 24 = .ok (.iconst 0, 1) := by decide +kernel
theorem d_R_isPlace_25 : decode b_R_isPlace 25 = .ok (.ireturn, 1) := by decide +kernel
theorem d_R_forgetReadings_0 : decode b_R_forgetReadings 0 = .ok (.aload_n 0, 1) := by decide +kernel
theorem d_R_forgetReadings_1 : decode b_R_forgetReadings 1 = .ok (.iconst 0, 1) := by decide +kernel
theorem d_R_forgetReadings_2 : decode b_R_forgetReadings 2 = .ok (.putfield 41, 3) := by decide +kernel
theorem d_R_forgetReadings_5 : decode b_R_forgetReadings 5 = .ok (.aload_n 0, 1) := by decide +kernel
theorem d_R_forgetReadings_6 : decode b_R_forgetReadings 6 = .ok (.iconst 0, 1) := by decide +kernel
theorem d_R_forgetReadings_7 : decode b_R_forgetReadings 7 = .ok (.putfield 45, 3) := by decide +kernel
theorem d_R_forgetReadings_10 : decode b_R_forgetReadings 10 = .ok (.return_, 1) := by decide +kernel
theorem d_R_append_0 : decode b_R_append 0 = .ok (.aload_n 0, 1) := by decide +kernel
theorem d_R_append_1 : decode b_R_append 1 = .ok (.getfield 12, 3) := by decide +kernel
theorem d_R_append_4 : decode b_R_append 4 = .ok (.invokevirtual 201, 3) := by decide +kernel
theorem d_R_append_7 : decode b_R_append 7 = .ok (.ifCond .eq (5), 3) := by decide +kernel
theorem d_R_append_10 : decode b_R_append 10 = .ok (.iconst (-1), 1) := by decide +kernel
theorem d_R_append_11 : decode b_R_append 11 = .ok (.ireturn, 1) := by decide +kernel
theorem d_R_append_12 : decode b_R_append 12 = .ok (.aload_n 0, 1) := by decide +kernel
theorem d_R_append_13 : decode b_R_append 13 = .ok (.getfield 26, 3) := by decide +kernel
theorem d_R_append_16 : decode b_R_append 16 = .ok (.invokevirtual 204, 3) := by decide +kernel
theorem d_R_append_19 : decode b_R_append 19 = .ok (.ifCond .ne (15), 3) := by decide +kernel
theorem d_R_append_22 : decode b_R_append 22 = .ok (.aload_n 0, 1) := by decide +kernel
theorem d_R_append_23 : decode b_R_append 23 = .ok (.getfield 26, 3) := by decide +kernel
theorem d_R_append_26 : decode b_R_append 26 = .ok (.iload_n 1, 1) := by decide +kernel
theorem d_R_append_27 : decode b_R_append 27 = .ok (.iload_n 2, 1) := by decide +kernel
theorem d_R_append_28 : decode b_R_append 28 = .ok (.iload_n 3, 1) := by decide +kernel
theorem d_R_append_29 : decode b_R_append 29 = .ok (.invokevirtual 207, 3) := by decide +kernel
theorem d_R_append_32 : decode b_R_append 32 = .ok (.iconst 1, 1) := by decide +kernel
theorem d_R_append_33 : decode b_R_append 33 = .ok (.ireturn, 1) := by decide +kernel
theorem d_R_append_34 : decode b_R_append 34 = .ok (.aload_n 0, 1) := by decide +kernel
theorem d_R_append_35 : decode b_R_append 35 = .ok (.getfield 12, 3) := by decide +kernel
theorem d_R_append_38 : decode b_R_append 38 = .ok (.invokevirtual 98, 3) := by decide +kernel
theorem d_R_append_41 : decode b_R_append 41 = .ok (.istore 4, 2) := by decide +kernel
theorem d_R_append_43 : decode b_R_append 43 = .ok (.iload 4, 2) := by decide +kernel
theorem d_R_append_45 : decode b_R_append 45 = .ok (.ifCond .ge (6), 3) := by decide +kernel
theorem d_R_append_48 : decode b_R_append 48 = .ok (.iload 4, 2) := by decide +kernel
theorem d_R_append_50 : decode b_R_append 50 = .ok (.ireturn, 1) := by decide +kernel
theorem d_R_append_51 : decode b_R_append 51 = .ok (.aload_n 0, 1) := by decide +kernel
theorem d_R_append_52 : decode b_R_append 52 = .ok (.getfield 26, 3) := by decide +kernel
theorem d_R_append_55 : decode b_R_append 55 = .ok (.iload_n 1, 1) := by decide +kernel
theorem d_R_append_56 : decode b_R_append 56 = .ok (.iload_n 2, 1) := by decide +kernel
theorem d_R_append_57 : decode b_R_append 57 = .ok (.iload_n 3, 1) := by decide +kernel
theorem d_R_append_58 : decode b_R_append 58 = .ok (.invokevirtual 207, 3) := by decide +kernel
theorem d_R_append_61 : decode b_R_append 61 = .ok (.aload_n 0, 1) := by decide +kernel
theorem d_R_append_62 : decode b_R_append 62 = .ok (.getfield 12, 3) := by decide +kernel
theorem d_R_append_65 : decode b_R_append 65 = .ok (.aload_n 0, 1) := by decide +kernel
theorem d_R_append_66 : decode b_R_append 66 = .ok (.getfield 26, 3) := by decide +kernel
theorem d_R_append_69 : decode b_R_append 69 = .ok (.iload 4, 2) := by decide +kernel
theorem d_R_append_71 : decode b_R_append 71 = .ok (.invokevirtual 101, 3) := by decide +kernel
theorem d_R_append_74 : decode b_R_append 74 = .ok (.ireturn, 1) := by decide +kernel
theorem d_R_axle_0 : decode b_R_axle 0 = .ok (.iload_n 1, 1) := by decide +kernel
theorem d_R_axle_1 : decode b_R_axle 1 = .ok (.iconst 1, 1) := by decide +kernel
theorem d_R_axle_2 : decode b_R_axle 2 = .ok (.sipush 1200, 3) := by decide +kernel
theorem d_R_axle_5 : decode b_R_axle 5 = .ok (.invokestatic 48, 3) := by decide +kernel
theorem d_R_axle_8 : decode b_R_axle 8 = .ok (.invokestatic 52, 3) := by decide +kernel
theorem d_R_axle_11 : decode b_R_axle 11 = .ok (.aload_n 0, 1) := by decide +kernel
theorem d_R_axle_12 : decode b_R_axle 12 = .ok (.getfield 20, 3) := by decide +kernel
theorem d_R_axle_15 : decode b_R_axle 15 = .ok (.invokevirtual 56, 3) := by decide +kernel
theorem d_R_axle_18 : decode b_R_axle 18 = .ok (.ifCond .eq (16), 3) := by decide +kernel
theorem d_R_axle_21 : decode b_R_axle 21 = .ok (.aload_n 0, 1) := by decide +kernel
theorem d_R_axle_22 : decode b_R_axle 22 = .ok (.getfield 41, 3) := by decide +kernel
theorem d_R_axle_25 : decode b_R_axle 25 = .ok (.bipush 9, 2) := by decide +kernel
theorem d_R_axle_27 : decode b_R_axle 27 = .ok (.if_icmp .ge (7), 3) := by decide +kernel
theorem d_R_axle_30 : decode b_R_axle 30 = .ok (.iconst 1, 1) := by decide +kernel
theorem d_R_axle_31 : decode b_R_axle 31 = .ok (.goto (4), 3) := by decide +kernel
theorem d_R_axle_34 : decode b_R_axle 34 = .ok (.iconst 0, 1) := by decide +kernel
theorem d_R_axle_35 : decode b_R_axle 35 = .ok (.invokestatic 62, 3) := by decide +kernel
theorem d_R_axle_38 : decode b_R_axle 38 = .ok (.aload_n 0, 1) := by decide +kernel
theorem d_R_axle_39 : decode b_R_axle 39 = .ok (.dup, 1) := by decide +kernel
theorem d_R_axle_40 : decode b_R_axle 40 = .ok (.getfield 41, 3) := by decide +kernel
theorem d_R_axle_43 : decode b_R_axle 43 = .ok (.iconst 1, 1) := by decide +kernel
theorem d_R_axle_44 : decode b_R_axle 44 = .ok (.iadd, 1) := by decide +kernel
theorem d_R_axle_45 : decode b_R_axle 45 = .ok (.putfield 41, 3) := by decide +kernel
theorem d_R_axle_48 : decode b_R_axle 48 = .ok (.aload_n 0, 1) := by decide +kernel
theorem d_R_axle_49 : decode b_R_axle 49 = .ok (.dup, 1) := by decide +kernel
theorem d_R_axle_50 : decode b_R_axle 50 = .ok (.getfield 45, 3) := by decide +kernel
theorem d_R_axle_53 : decode b_R_axle 53 = .ok (.iload_n 1, 1) := by decide +kernel
theorem d_R_axle_54 : decode b_R_axle 54 = .ok (.iadd, 1) := by decide +kernel
theorem d_R_axle_55 : decode b_R_axle 55 = .ok (.putfield 45, 3) := by decide +kernel
theorem d_R_axle_58 : decode b_R_axle 58 = .ok (.aload_n 0, 1) := by decide +kernel
theorem d_R_axle_59 : decode b_R_axle 59 = .ok (.getfield 41, 3) := by decide +kernel
theorem d_R_axle_62 : decode b_R_axle 62 = .ok (.ireturn, 1) := by decide +kernel
theorem d_R_close_0 : decode b_R_close 0 = .ok (.iload_n 2, 1) := by decide +kernel
theorem d_R_close_1 : decode b_R_close 1 = .ok (.iconst 0, 1) := by decide +kernel
theorem d_R_close_2 : decode b_R_close 2 = .ok (.ldc 65, 2) := by decide +kernel
theorem d_R_close_4 : decode b_R_close 4 = .ok (.invokestatic 48, 3) := by decide +kernel
theorem d_R_close_7 : decode b_R_close 7 = .ok (.invokestatic 52, 3) := by decide +kernel
theorem d_R_close_10 : decode b_R_close 10 = .ok (.iload_n 3, 1) := by decide +kernel
theorem d_R_close_11 : decode b_R_close 11 = .ok (.invokestatic 66, 3) := by decide +kernel
theorem d_R_close_14 : decode b_R_close 14 = .ok (.invokestatic 52, 3) := by decide +kernel
theorem d_R_close_17 : decode b_R_close 17 = .ok (.iload 4, 2) := by decide +kernel
theorem d_R_close_19 : decode b_R_close 19 = .ok (.iconst 0, 1) := by decide +kernel
theorem d_R_close_20 : decode b_R_close 20 = .ok (.ldc 70, 2) := by decide +kernel
theorem d_R_close_22 : decode b_R_close 22 = .ok (.invokestatic 48, 3) := by decide +kernel
theorem d_R_close_25 : decode b_R_close 25 = .ok (.invokestatic 52, 3) := by decide +kernel
theorem d_R_close_28 : decode b_R_close 28 = .ok (.aload_n 0, 1) := by decide +kernel
theorem d_R_close_29 : decode b_R_close 29 = .ok (.getfield 20, 3) := by decide +kernel
theorem d_R_close_32 : decode b_R_close 32 = .ok (.invokevirtual 56, 3) := by decide +kernel
theorem d_R_close_35 : decode b_R_close 35 = .ok (.invokestatic 62, 3) := by decide +kernel
theorem d_R_close_38 : decode b_R_close 38 = .ok (.aload_n 0, 1) := by decide +kernel
theorem d_R_close_39 : decode b_R_close 39 = .ok (.getfield 41, 3) := by decide +kernel
theorem d_R_close_42 : decode b_R_close 42 = .ok (.ifCond .eq (33), 3) := by decide +kernel
theorem d_R_close_45 : decode b_R_close 45 = .ok (.aload_n 0, 1) := by decide +kernel
theorem d_R_close_46 : decode b_R_close 46 = .ok (.getfield 37, 3) := by decide +kernel
theorem d_R_close_49 : decode b_R_close 49 = .ok (.iload_n 3, 1) := by decide +kernel
theorem d_R_close_50 : decode b_R_close 50 = .ok (.baload, 1) := by decide +kernel
theorem d_R_close_51 : decode b_R_close 51 = .ok (.ifCond .eq (24), 3) := by decide +kernel
theorem d_R_close_54 : decode b_R_close 54 = .ok (.iload_n 2, 1) := by decide +kernel
theorem d_R_close_55 : decode b_R_close 55 = .ok (.aload_n 0, 1) := by decide +kernel
theorem d_R_close_56 : decode b_R_close 56 = .ok (.getfield 45, 3) := by decide +kernel
theorem d_R_close_59 : decode b_R_close 59 = .ok (.bipush 20, 2) := by decide +kernel
theorem d_R_close_61 : decode b_R_close 61 = .ok (.imul, 1) := by decide +kernel
theorem d_R_close_62 : decode b_R_close 62 = .ok (.if_icmp .gt (13), 3) := by decide +kernel
theorem d_R_close_65 : decode b_R_close 65 = .ok (.aload_n 0, 1) := by decide +kernel
theorem d_R_close_66 : decode b_R_close 66 = .ok (.getfield 26, 3) := by decide +kernel
theorem d_R_close_69 : decode b_R_close 69 = .ok (.invokevirtual 71, 3) := by decide +kernel
theorem d_R_close_72 : decode b_R_close 72 = .ok (.ifCond .eq (5), 3) := by decide +kernel
theorem d_R_close_75 : decode b_R_close 75 = .ok (.iconst 0, 1) := by decide +kernel
theorem d_R_close_76 : decode b_R_close 76 = .ok (.ireturn, 1) := by decide +kernel
theorem d_R_close_77 : decode b_R_close 77 = .ok (.aload_n 0, 1) := by decide +kernel
theorem d_R_close_78 : decode b_R_close 78 = .ok (.iload_n 1, 1) := by decide +kernel
theorem d_R_close_79 : decode b_R_close 79 = .ok (.aload_n 0, 1) := by decide +kernel
theorem d_R_close_80 : decode b_R_close 80 = .ok (.getfield 45, 3) := by decide +kernel
theorem d_R_close_83 : decode b_R_close 83 = .ok (.bipush 18, 2) := by decide +kernel
theorem d_R_close_85 : decode b_R_close 85 = .ok (.ishl, 1) := by decide +kernel
theorem d_R_close_86 : decode b_R_close 86 = .ok (.iload_n 2, 1) := by decide +kernel
theorem d_R_close_87 : decode b_R_close 87 = .ok (.ior, 1) := by decide +kernel
theorem d_R_close_88 : decode b_R_close 88 = .ok (.iload_n 3, 1) := by decide +kernel
theorem d_R_close_89 : decode b_R_close 89 = .ok (.bipush 26, 2) := by decide +kernel
theorem d_R_close_91 : decode b_R_close 91 = .ok (.ishl, 1) := by decide +kernel
theorem d_R_close_92 : decode b_R_close 92 = .ok (.iload 4, 2) := by decide +kernel
theorem d_R_close_94 : decode b_R_close 94 = .ok (.ior, 1) := by decide +kernel
theorem d_R_close_95 : decode b_R_close 95 = .ok (.invokevirtual 74, 3) := by decide +kernel
theorem d_R_close_98 : decode b_R_close 98 = .ok (.istore 5, 2) := by decide +kernel
theorem d_R_close_100 : decode b_R_close 100 = .ok (.iload 5, 2) := by decide +kernel
theorem d_R_close_102 : decode b_R_close 102 = .ok (.iconst 1, 1) := by decide +kernel
theorem d_R_close_103 : decode b_R_close 103 = .ok (.if_icmp .eq (6), 3) := by decide +kernel
theorem d_R_close_106 : decode b_R_close 106 = .ok (.iload 5, 2) := by decide +kernel
theorem d_R_close_108 : decode b_R_close 108 = .ok (.ireturn, 1) := by decide +kernel
theorem d_R_close_109 : decode b_R_close 109 = .ok (.aload_n 0, 1) := by decide +kernel
theorem d_R_close_110 : decode b_R_close 110 = .ok (.invokevirtual 78, 3) := by decide +kernel
theorem d_R_close_113 : decode b_R_close 113 = .ok (.aload_n 0, 1) := by decide +kernel
theorem d_R_close_114 : decode b_R_close 114 = .ok (.getfield 26, 3) := by decide +kernel
theorem d_R_close_117 : decode b_R_close 117 = .ok (.invokevirtual 81, 3) := by decide +kernel
theorem d_R_close_120 : decode b_R_close 120 = .ok (.ireturn, 1) := by decide +kernel
theorem d_R_annul_0 : decode b_R_annul 0 = .ok (.iload_n 2, 1) := by decide +kernel
theorem d_R_annul_1 : decode b_R_annul 1 = .ok (.iconst 0, 1) := by decide +kernel
theorem d_R_annul_2 : decode b_R_annul 2 = .ok (.iconst 3, 1) := by decide +kernel
theorem d_R_annul_3 : decode b_R_annul 3 = .ok (.invokestatic 48, 3) := by decide +kernel
theorem d_R_annul_6 : decode b_R_annul 6 = .ok (.invokestatic 52, 3) := by decide +kernel
theorem d_R_annul_9 : decode b_R_annul 9 = .ok (.aload_n 0, 1) := by decide +kernel
theorem d_R_annul_10 : decode b_R_annul 10 = .ok (.getfield 20, 3) := by decide +kernel
theorem d_R_annul_13 : decode b_R_annul 13 = .ok (.invokevirtual 56, 3) := by decide +kernel
theorem d_R_annul_16 : decode b_R_annul 16 = .ok (.invokestatic 62, 3) := by decide +kernel
theorem d_R_annul_19 : decode b_R_annul 19 = .ok (.aload_n 0, 1) := by decide +kernel
theorem d_R_annul_20 : decode b_R_annul 20 = .ok (.getfield 26, 3) := by decide +kernel
theorem d_R_annul_23 : decode b_R_annul 23 = .ok (.iload_n 1, 1) := by decide +kernel
theorem d_R_annul_24 : decode b_R_annul 24 = .ok (.invokevirtual 85, 3) := by decide +kernel
theorem d_R_annul_27 : decode b_R_annul 27 = .ok (.ifCond .eq (24), 3) := by decide +kernel
theorem d_R_annul_30 : decode b_R_annul 30 = .ok (.aload_n 0, 1) := by decide +kernel
theorem d_R_annul_31 : decode b_R_annul 31 = .ok (.getfield 26, 3) := by decide +kernel
theorem d_R_annul_34 : decode b_R_annul 34 = .ok (.iload_n 1, 1) := by decide +kernel
theorem d_R_annul_35 : decode b_R_annul 35 = .ok (.invokevirtual 88, 3) := by decide +kernel
theorem d_R_annul_38 : decode b_R_annul 38 = .ok (.ifCond .ne (13), 3) := by decide +kernel
theorem d_R_annul_41 : decode b_R_annul 41 = .ok (.aload_n 0, 1) := by decide +kernel
theorem d_R_annul_42 : decode b_R_annul 42 = .ok (.getfield 26, 3) := by decide +kernel
theorem d_R_annul_45 : decode b_R_annul 45 = .ok (.invokevirtual 71, 3) := by decide +kernel
theorem d_R_annul_48 : decode b_R_annul 48 = .ok (.ifCond .eq (5), 3) := by decide +kernel
theorem d_R_annul_51 : decode b_R_annul 51 = .ok (.iconst 0, 1) := by decide +kernel
theorem d_R_annul_52 : decode b_R_annul 52 = .ok (.ireturn, 1) := by decide +kernel
theorem d_R_annul_53 : decode b_R_annul 53 = .ok (.aload_n 0, 1) := by decide +kernel
theorem d_R_annul_54 : decode b_R_annul 54 = .ok (.iload_n 1, 1) := by decide +kernel
theorem d_R_annul_55 : decode b_R_annul 55 = .ok (.iload_n 2, 1) := by decide +kernel
theorem d_R_annul_56 : decode b_R_annul 56 = .ok (.ldc 91, 2) := by decide +kernel
theorem d_R_annul_58 : decode b_R_annul 58 = .ok (.invokevirtual 74, 3) := by decide +kernel
theorem d_R_annul_61 : decode b_R_annul 61 = .ok (.ireturn, 1) := by decide +kernel
theorem d_R_sync_0 : decode b_R_sync 0 = .ok (.aload_n 0, 1) := by decide +kernel
theorem d_R_sync_1 : decode b_R_sync 1 = .ok (.getfield 20, 3) := by decide +kernel
theorem d_R_sync_4 : decode b_R_sync 4 = .ok (.invokevirtual 56, 3) := by decide +kernel
theorem d_R_sync_7 : decode b_R_sync 7 = .ok (.invokestatic 62, 3) := by decide +kernel
theorem d_R_sync_10 : decode b_R_sync 10 = .ok (.aload_n 0, 1) := by decide +kernel
theorem d_R_sync_11 : decode b_R_sync 11 = .ok (.getfield 12, 3) := by decide +kernel
theorem d_R_sync_14 : decode b_R_sync 14 = .ok (.invokevirtual 92, 3) := by decide +kernel
theorem d_R_sync_17 : decode b_R_sync 17 = .ok (.aload_n 0, 1) := by decide +kernel
theorem d_R_sync_18 : decode b_R_sync 18 = .ok (.getfield 26, 3) := by decide +kernel
theorem d_R_sync_21 : decode b_R_sync 21 = .ok (.invokevirtual 95, 3) := by decide +kernel
theorem d_R_sync_24 : decode b_R_sync 24 = .ok (.if_icmp .ne (5), 3) := by decide +kernel
theorem d_R_sync_27 : decode b_R_sync 27 = .ok (.iconst 1, 1) := by decide +kernel
theorem d_R_sync_28 : decode b_R_sync 28 = .ok (.ireturn, 1) := by decide +kernel
theorem d_R_sync_29 : decode b_R_sync 29 = .ok (.aload_n 0, 1) := by decide +kernel
theorem d_R_sync_30 : decode b_R_sync 30 = .ok (.getfield 12, 3) := by decide +kernel
theorem d_R_sync_33 : decode b_R_sync 33 = .ok (.invokevirtual 98, 3) := by decide +kernel
theorem d_R_sync_36 : decode b_R_sync 36 = .ok (.istore_n 1, 1) := by decide +kernel
theorem d_R_sync_37 : decode b_R_sync 37 = .ok (.iload_n 1, 1) := by decide +kernel
theorem d_R_sync_38 : decode b_R_sync 38 = .ok (.ifCond .lt (18), 3) := by decide +kernel
theorem d_R_sync_41 : decode b_R_sync 41 = .ok (.aload_n 0, 1) := by decide +kernel
theorem d_R_sync_42 : decode b_R_sync 42 = .ok (.getfield 12, 3) := by decide +kernel
theorem d_R_sync_45 : decode b_R_sync 45 = .ok (.aload_n 0, 1) := by decide +kernel
theorem d_R_sync_46 : decode b_R_sync 46 = .ok (.getfield 26, 3) := by decide +kernel
theorem d_R_sync_49 : decode b_R_sync 49 = .ok (.iload_n 1, 1) := by decide +kernel
theorem d_R_sync_50 : decode b_R_sync 50 = .ok (.invokevirtual 101, 3) := by decide +kernel
theorem d_R_sync_53 : decode b_R_sync 53 = .ok (.goto (4), 3) := by decide +kernel
theorem d_R_sync_56 : decode b_R_sync 56 = .ok (.iload_n 1, 1) := by decide +kernel
theorem d_R_sync_57 : decode b_R_sync 57 = .ok (.ireturn, 1) := by decide +kernel
theorem d_R_ticket_0 : decode b_R_ticket 0 = .ok (.aload_n 0, 1) := by decide +kernel
theorem d_R_ticket_1 : decode b_R_ticket 1 = .ok (.getfield 20, 3) := by decide +kernel
theorem d_R_ticket_4 : decode b_R_ticket 4 = .ok (.invokevirtual 56, 3) := by decide +kernel
theorem d_R_ticket_7 : decode b_R_ticket 7 = .ok (.invokestatic 62, 3) := by decide +kernel
theorem d_R_ticket_10 : decode b_R_ticket 10 = .ok (.aload_n 0, 1) := by decide +kernel
theorem d_R_ticket_11 : decode b_R_ticket 11 = .ok (.getfield 26, 3) := by decide +kernel
theorem d_R_ticket_14 : decode b_R_ticket 14 = .ok (.iload_n 1, 1) := by decide +kernel
theorem d_R_ticket_15 : decode b_R_ticket 15 = .ok (.invokevirtual 85, 3) := by decide +kernel
theorem d_R_ticket_18 : decode b_R_ticket 18 = .ok (.ifCond .eq (17), 3) := by decide +kernel
theorem d_R_ticket_21 : decode b_R_ticket 21 = .ok (.iload_n 2, 1) := by decide +kernel
theorem d_R_ticket_22 : decode b_R_ticket 22 = .ok (.iconst 0, 1) := by decide +kernel
theorem d_R_ticket_23 : decode b_R_ticket 23 = .ok (.bipush 6, 2) := by decide +kernel
theorem d_R_ticket_25 : decode b_R_ticket 25 = .ok (.invokestatic 48, 3) := by decide +kernel
theorem d_R_ticket_28 : decode b_R_ticket 28 = .ok (.ifCond .eq (7), 3) := by decide +kernel
theorem d_R_ticket_31 : decode b_R_ticket 31 = .ok (.iconst 1, 1) := by decide +kernel
theorem d_R_ticket_32 : decode b_R_ticket 32 = .ok (.goto (4), 3) := by decide +kernel
theorem d_R_ticket_35 : decode b_R_ticket 35 = .ok (.iconst 0, 1) := by decide +kernel
theorem d_R_ticket_36 : decode b_R_ticket 36 = .ok (.invokestatic 105, 3) := by decide +kernel
theorem d_R_ticket_39 : decode b_R_ticket 39 = .ok (.iload_n 2, 1) := by decide +kernel
theorem d_R_ticket_40 : decode b_R_ticket 40 = .ok (.tableswitch 94 0 5 #[40, 49, 58, 67, 76, 85], 40) := by decide +kernel
theorem d_R_ticket_80 : decode b_R_ticket 80 = .ok (.aload_n 0, 1) := by decide +kernel
theorem d_R_ticket_81 : decode b_R_ticket 81 = .ok (.getfield 26, 3) := by decide +kernel
theorem d_R_ticket_84 : decode b_R_ticket 84 = .ok (.iload_n 1, 1) := by decide +kernel
theorem d_R_ticket_85 : decode b_R_ticket 85 = .ok (.invokevirtual 108, 3) := by decide +kernel
theorem d_R_ticket_88 : decode b_R_ticket 88 = .ok (.ireturn, 1) := by decide +kernel
theorem d_R_ticket_89 : decode b_R_ticket 89 = .ok (.aload_n 0, 1) := by decide +kernel
theorem d_R_ticket_90 : decode b_R_ticket 90 = .ok (.getfield 26, 3) := by decide +kernel
theorem d_R_ticket_93 : decode b_R_ticket 93 = .ok (.iload_n 1, 1) := by decide +kernel
theorem d_R_ticket_94 : decode b_R_ticket 94 = .ok (.invokevirtual 112, 3) := by decide +kernel
theorem d_R_ticket_97 : decode b_R_ticket 97 = .ok (.ireturn, 1) := by decide +kernel
theorem d_R_ticket_98 : decode b_R_ticket 98 = .ok (.aload_n 0, 1) := by decide +kernel
theorem d_R_ticket_99 : decode b_R_ticket 99 = .ok (.getfield 26, 3) := by decide +kernel
theorem d_R_ticket_102 : decode b_R_ticket 102 = .ok (.iload_n 1, 1) := by decide +kernel
theorem d_R_ticket_103 : decode b_R_ticket 103 = .ok (.invokevirtual 115, 3) := by decide +kernel
theorem d_R_ticket_106 : decode b_R_ticket 106 = .ok (.ireturn, 1) := by decide +kernel
theorem d_R_ticket_107 : decode b_R_ticket 107 = .ok (.aload_n 0, 1) := by decide +kernel
theorem d_R_ticket_108 : decode b_R_ticket 108 = .ok (.getfield 26, 3) := by decide +kernel
theorem d_R_ticket_111 : decode b_R_ticket 111 = .ok (.iload_n 1, 1) := by decide +kernel
theorem d_R_ticket_112 : decode b_R_ticket 112 = .ok (.invokevirtual 118, 3) := by decide +kernel
theorem d_R_ticket_115 : decode b_R_ticket 115 = .ok (.ireturn, 1) := by decide +kernel
theorem d_R_ticket_116 : decode b_R_ticket 116 = .ok (.aload_n 0, 1) := by decide +kernel
theorem d_R_ticket_117 : decode b_R_ticket 117 = .ok (.getfield 26, 3) := by decide +kernel
theorem d_R_ticket_120 : decode b_R_ticket 120 = .ok (.iload_n 1, 1) := by decide +kernel
theorem d_R_ticket_121 : decode b_R_ticket 121 = .ok (.invokevirtual 121, 3) := by decide +kernel
theorem d_R_ticket_124 : decode b_R_ticket 124 = .ok (.ireturn, 1) := by decide +kernel
theorem d_R_ticket_125 : decode b_R_ticket 125 = .ok (.aload_n 0, 1) := by decide +kernel
theorem d_R_ticket_126 : decode b_R_ticket 126 = .ok (.getfield 26, 3) := by decide +kernel
theorem d_R_ticket_129 : decode b_R_ticket 129 = .ok (.iload_n 1, 1) := by decide +kernel
theorem d_R_ticket_130 : decode b_R_ticket 130 = .ok (.invokevirtual 124, 3) := by decide +kernel
theorem d_R_ticket_133 : decode b_R_ticket 133 = .ok (.ireturn, 1) := by decide +kernel
theorem d_R_ticket_134 : decode b_R_ticket 134 = .ok (.aload_n 0, 1) := by decide +kernel
theorem d_R_ticket_135 : decode b_R_ticket 135 = .ok (.getfield 26, 3) := by decide +kernel
theorem d_R_ticket_138 : decode b_R_ticket 138 = .ok (.iload_n 1, 1) := by decide +kernel
theorem d_R_ticket_139 : decode b_R_ticket 139 = .ok (.invokevirtual 127, 3) := by decide +kernel
theorem d_R_ticket_142 : decode b_R_ticket 142 = .ok (.ireturn, 1) := by decide +kernel
theorem d_R_dayTotal_0 : decode b_R_dayTotal 0 = .ok (.aload_n 0, 1) := by decide +kernel
theorem d_R_dayTotal_1 : decode b_R_dayTotal 1 = .ok (.getfield 20, 3) := by decide +kernel
theorem d_R_dayTotal_4 : decode b_R_dayTotal 4 = .ok (.invokevirtual 56, 3) := by decide +kernel
theorem d_R_dayTotal_7 : decode b_R_dayTotal 7 = .ok (.invokestatic 62, 3) := by decide +kernel
theorem d_R_dayTotal_10 : decode b_R_dayTotal 10 = .ok (.lconst 0, 1) := by decide +kernel
theorem d_R_dayTotal_11 : decode b_R_dayTotal 11 = .ok (.lstore_n 3, 1) := by decide +kernel
theorem d_R_dayTotal_12 : decode b_R_dayTotal 12 = .ok (.iconst 1, 1) := by decide +kernel
theorem d_R_dayTotal_13 : decode b_R_dayTotal 13 = .ok (.istore 5, 2) := by decide +kernel
theorem d_R_dayTotal_15 : decode b_R_dayTotal 15 = .ok (.iload 5, 2) := by decide +kernel
theorem d_R_dayTotal_17 : decode b_R_dayTotal 17 = .ok (.aload_n 0, 1) := by decide +kernel
theorem d_R_dayTotal_18 : decode b_R_dayTotal 18 = .ok (.getfield 26, 3) := by decide +kernel
theorem d_R_dayTotal_21 : decode b_R_dayTotal 21 = .ok (.invokevirtual 81, 3) := by decide +kernel
theorem d_R_dayTotal_24 : decode b_R_dayTotal 24 = .ok (.if_icmp .gt (76), 3) := by decide +kernel
theorem d_R_dayTotal_27 : decode b_R_dayTotal 27 = .ok (.aload_n 0, 1) := by decide +kernel
theorem d_R_dayTotal_28 : decode b_R_dayTotal 28 = .ok (.getfield 26, 3) := by decide +kernel
theorem d_R_dayTotal_31 : decode b_R_dayTotal 31 = .ok (.iload 5, 2) := by decide +kernel
theorem d_R_dayTotal_33 : decode b_R_dayTotal 33 = .ok (.invokevirtual 118, 3) := by decide +kernel
theorem d_R_dayTotal_36 : decode b_R_dayTotal 36 = .ok (.iload_n 2, 1) := by decide +kernel
theorem d_R_dayTotal_37 : decode b_R_dayTotal 37 = .ok (.if_icmp .ne (24), 3) := by decide +kernel
theorem d_R_dayTotal_40 : decode b_R_dayTotal 40 = .ok (.aload_n 0, 1) := by decide +kernel
theorem d_R_dayTotal_41 : decode b_R_dayTotal 41 = .ok (.getfield 26, 3) := by decide +kernel
theorem d_R_dayTotal_44 : decode b_R_dayTotal 44 = .ok (.iload 5, 2) := by decide +kernel
theorem d_R_dayTotal_46 : decode b_R_dayTotal 46 = .ok (.invokevirtual 121, 3) := by decide +kernel
theorem d_R_dayTotal_49 : decode b_R_dayTotal 49 = .ok (.sipush 1440, 3) := by decide +kernel
theorem d_R_dayTotal_52 : decode b_R_dayTotal 52 = .ok (.idiv, 1) := by decide +kernel
theorem d_R_dayTotal_53 : decode b_R_dayTotal 53 = .ok (.iload_n 1, 1) := by decide +kernel
theorem d_R_dayTotal_54 : decode b_R_dayTotal 54 = .ok (.if_icmp .ne (7), 3) := by decide +kernel
theorem d_R_dayTotal_57 : decode b_R_dayTotal 57 = .ok (.iconst 1, 1) := by decide +kernel
theorem d_R_dayTotal_58 : decode b_R_dayTotal 58 = .ok (.goto (4), 3) := by decide +kernel
theorem d_R_dayTotal_61 : decode b_R_dayTotal 61 = .ok (.iconst 0, 1) := by decide +kernel
theorem d_R_dayTotal_62 : decode b_R_dayTotal 62 = .ok (.istore 6, 2) := by decide +kernel
theorem d_R_dayTotal_64 : decode b_R_dayTotal 64 = .ok (.iload 6, 2) := by decide +kernel
theorem d_R_dayTotal_66 : decode b_R_dayTotal 66 = .ok (.ifCond .eq (28), 3) := by decide +kernel
theorem d_R_dayTotal_69 : decode b_R_dayTotal 69 = .ok (.aload_n 0, 1) := by decide +kernel
theorem d_R_dayTotal_70 : decode b_R_dayTotal 70 = .ok (.getfield 26, 3) := by decide +kernel
theorem d_R_dayTotal_73 : decode b_R_dayTotal 73 = .ok (.iload 5, 2) := by decide +kernel
theorem d_R_dayTotal_75 : decode b_R_dayTotal 75 = .ok (.invokevirtual 88, 3) := by decide +kernel
theorem d_R_dayTotal_78 : decode b_R_dayTotal 78 = .ok (.ifCond .ne (16), 3) := by decide +kernel
theorem d_R_dayTotal_81 : decode b_R_dayTotal 81 = .ok (.lload_n 3, 1) := by decide +kernel
theorem d_R_dayTotal_82 : decode b_R_dayTotal 82 = .ok (.aload_n 0, 1) := by decide +kernel
theorem d_R_dayTotal_83 : decode b_R_dayTotal 83 = .ok (.getfield 26, 3) := by decide +kernel
theorem d_R_dayTotal_86 : decode b_R_dayTotal 86 = .ok (.iload 5, 2) := by decide +kernel
theorem d_R_dayTotal_88 : decode b_R_dayTotal 88 = .ok (.invokevirtual 130, 3) := by decide +kernel
theorem d_R_dayTotal_91 : decode b_R_dayTotal 91 = .ok (.i2l, 1) := by decide +kernel
theorem d_R_dayTotal_92 : decode b_R_dayTotal 92 = .ok (.ladd, 1) := by decide +kernel
theorem d_R_dayTotal_93 : decode b_R_dayTotal 93 = .ok (.lstore_n 3, 1) := by decide +kernel
theorem d_R_dayTotal_94 : decode b_R_dayTotal 94 = .ok (.iinc 5 1, 3) := by decide +kernel
theorem d_R_dayTotal_97 : decode b_R_dayTotal 97 = .ok (.goto (-82), 3) := by decide +kernel
theorem d_R_dayTotal_100 : decode b_R_dayTotal 100 = .ok (.lload_n 3, 1) := by decide +kernel
theorem d_R_dayTotal_101 : decode b_R_dayTotal 101 = .ok (.lreturn, 1) := by decide +kernel
theorem d_R_rangeTotal_0 : decode b_R_rangeTotal 0 = .ok (.aload_n 0, 1) := by decide +kernel
theorem d_R_rangeTotal_1 : decode b_R_rangeTotal 1 = .ok (.getfield 20, 3) := by decide +kernel
theorem d_R_rangeTotal_4 : decode b_R_rangeTotal 4 = .ok (.invokevirtual 56, 3) := by decide +kernel
theorem d_R_rangeTotal_7 : decode b_R_rangeTotal 7 = .ok (.invokestatic 62, 3) := by decide +kernel
theorem d_R_rangeTotal_10 : decode b_R_rangeTotal 10 = .ok (.iload_n 2, 1) := by decide +kernel
theorem d_R_rangeTotal_11 : decode b_R_rangeTotal 11 = .ok (.aload_n 0, 1) := by decide +kernel
theorem d_R_rangeTotal_12 : decode b_R_rangeTotal 12 = .ok (.getfield 26, 3) := by decide +kernel
theorem d_R_rangeTotal_15 : decode b_R_rangeTotal 15 = .ok (.invokevirtual 81, 3) := by decide +kernel
theorem d_R_rangeTotal_18 : decode b_R_rangeTotal 18 = .ok (.invokestatic 133, 3) := by decide +kernel
theorem d_R_rangeTotal_21 : decode b_R_rangeTotal 21 = .ok (.istore_n 3, 1) := by decide +kernel
theorem d_R_rangeTotal_22 : decode b_R_rangeTotal 22 = .ok (.lconst 0, 1) := by decide +kernel
theorem d_R_rangeTotal_23 : decode b_R_rangeTotal 23 = .ok (.lstore 4, 2) := by decide +kernel
theorem d_R_rangeTotal_25 : decode b_R_rangeTotal 25 = .ok (.iload_n 1, 1) := by decide +kernel
theorem d_R_rangeTotal_26 : decode b_R_rangeTotal 26 = .ok (.iconst 1, 1) := by decide +kernel
theorem d_R_rangeTotal_27 : decode b_R_rangeTotal 27 = .ok (.invokestatic 139, 3) := by decide +kernel
theorem d_R_rangeTotal_30 : decode b_R_rangeTotal 30 = .ok (.istore 6, 2) := by decide +kernel
theorem d_R_rangeTotal_32 : decode b_R_rangeTotal 32 = .ok (.iload 6, 2) := by decide +kernel
theorem d_R_rangeTotal_34 : decode b_R_rangeTotal 34 = .ok (.iload_n 3, 1) := by decide +kernel
theorem d_R_rangeTotal_35 : decode b_R_rangeTotal 35 = .ok (.if_icmp .gt (36), 3) := by decide +kernel
theorem d_R_rangeTotal_38 : decode b_R_rangeTotal 38 = .ok (.aload_n 0, 1) := by decide +kernel
theorem d_R_rangeTotal_39 : decode b_R_rangeTotal 39 = .ok (.getfield 26, 3) := by decide +kernel
theorem d_R_rangeTotal_42 : decode b_R_rangeTotal 42 = .ok (.iload 6, 2) := by decide +kernel
theorem d_R_rangeTotal_44 : decode b_R_rangeTotal 44 = .ok (.invokevirtual 88, 3) := by decide +kernel
theorem d_R_rangeTotal_47 : decode b_R_rangeTotal 47 = .ok (.ifCond .ne (18), 3) := by decide +kernel
theorem d_R_rangeTotal_50 : decode b_R_rangeTotal 50 = .ok (.lload 4, 2) := by decide +kernel
theorem d_R_rangeTotal_52 : decode b_R_rangeTotal 52 = .ok (.aload_n 0, 1) := by decide +kernel
theorem d_R_rangeTotal_53 : decode b_R_rangeTotal 53 = .ok (.getfield 26, 3) := by decide +kernel
theorem d_R_rangeTotal_56 : decode b_R_rangeTotal 56 = .ok (.iload 6, 2) := by decide +kernel
theorem d_R_rangeTotal_58 : decode b_R_rangeTotal 58 = .ok (.invokevirtual 130, 3) := by decide +kernel
theorem d_R_rangeTotal_61 : decode b_R_rangeTotal 61 = .ok (.i2l, 1) := by decide +kernel
theorem d_R_rangeTotal_62 : decode b_R_rangeTotal 62 = .ok (.ladd, 1) := by decide +kernel
theorem d_R_rangeTotal_63 : decode b_R_rangeTotal 63 = .ok (.lstore 4, 2) := by decide +kernel
theorem d_R_rangeTotal_65 : decode b_R_rangeTotal 65 = .ok (.iinc 6 1, 3) := by decide +kernel
theorem d_R_rangeTotal_68 : decode b_R_rangeTotal 68 = .ok (.goto (-36), 3) := by decide +kernel
theorem d_R_rangeTotal_71 : decode b_R_rangeTotal 71 = .ok (.lload 4, 2) := by decide +kernel
theorem d_R_rangeTotal_73 : decode b_R_rangeTotal 73 = .ok (.lreturn, 1) := by decide +kernel
theorem d_R_find_0 : decode b_R_find 0 = .ok (.aload_n 0, 1) := by decide +kernel
theorem d_R_find_1 : decode b_R_find 1 = .ok (.getfield 20, 3) := by decide +kernel
theorem d_R_find_4 : decode b_R_find 4 = .ok (.invokevirtual 56, 3) := by decide +kernel
theorem d_R_find_7 : decode b_R_find 7 = .ok (.invokestatic 62, 3) := by decide +kernel
theorem d_R_find_10 : decode b_R_find 10 = .ok (.iload_n 2, 1) := by decide +kernel
theorem d_R_find_11 : decode b_R_find 11 = .ok (.iconst 1, 1) := by decide +kernel
theorem d_R_find_12 : decode b_R_find 12 = .ok (.invokestatic 139, 3) := by decide +kernel
theorem d_R_find_15 : decode b_R_find 15 = .ok (.istore_n 3, 1) := by decide +kernel
theorem d_R_find_16 : decode b_R_find 16 = .ok (.iload_n 3, 1) := by decide +kernel
theorem d_R_find_17 : decode b_R_find 17 = .ok (.aload_n 0, 1) := by decide +kernel
theorem d_R_find_18 : decode b_R_find 18 = .ok (.getfield 26, 3) := by decide +kernel
theorem d_R_find_21 : decode b_R_find 21 = .ok (.invokevirtual 81, 3) := by decide +kernel
theorem d_R_find_24 : decode b_R_find 24 = .ok (.if_icmp .gt (23), 3) := by decide +kernel
theorem d_R_find_27 : decode b_R_find 27 = .ok (.aload_n 0, 1) := by decide +kernel
theorem d_R_find_28 : decode b_R_find 28 = .ok (.getfield 26, 3) := by decide +kernel
theorem d_R_find_31 : decode b_R_find 31 = .ok (.iload_n 3, 1) := by decide +kernel
theorem d_R_find_32 : decode b_R_find 32 = .ok (.invokevirtual 108, 3) := by decide +kernel
theorem d_R_find_35 : decode b_R_find 35 = .ok (.iload_n 1, 1) := by decide +kernel
theorem d_R_find_36 : decode b_R_find 36 = .ok (.if_icmp .ne (5), 3) := by decide +kernel
theorem d_R_find_39 : decode b_R_find 39 = .ok (.iload_n 3, 1) := by decide +kernel
theorem d_R_find_40 : decode b_R_find 40 = .ok (.ireturn, 1) := by decide +kernel
theorem d_R_find_41 : decode b_R_find 41 = .ok (.iinc 3 1, 3) := by decide +kernel
theorem d_R_find_44 : decode b_R_find 44 = .ok (.goto (-28), 3) := by decide +kernel
theorem d_R_find_47 : decode b_R_find 47 = .ok (.iconst 0, 1) := by decide +kernel
theorem d_R_find_48 : decode b_R_find 48 = .ok (.ireturn, 1) := by decide +kernel
theorem d_R_audit_0 : decode b_R_audit 0 = .ok (.aload_n 0, 1) := by decide +kernel
theorem d_R_audit_1 : decode b_R_audit 1 = .ok (.getfield 20, 3) := by decide +kernel
theorem d_R_audit_4 : decode b_R_audit 4 = .ok (.invokevirtual 56, 3) := by decide +kernel
theorem d_R_audit_7 : decode b_R_audit 7 = .ok (.invokestatic 62, 3) := by decide +kernel
theorem d_R_audit_10 : decode b_R_audit 10 = .ok (.iload_n 2, 1) := by decide +kernel
theorem d_R_audit_11 : decode b_R_audit 11 = .ok (.aload_n 0, 1) := by decide +kernel
theorem d_R_audit_12 : decode b_R_audit 12 = .ok (.getfield 26, 3) := by decide +kernel
theorem d_R_audit_15 : decode b_R_audit 15 = .ok (.invokevirtual 81, 3) := by decide +kernel
theorem d_R_audit_18 : decode b_R_audit 18 = .ok (.invokestatic 133, 3) := by decide +kernel
theorem d_R_audit_21 : decode b_R_audit 21 = .ok (.istore_n 3, 1) := by decide +kernel
theorem d_R_audit_22 : decode b_R_audit 22 = .ok (.iload_n 1, 1) := by decide +kernel
theorem d_R_audit_23 : decode b_R_audit 23 = .ok (.iconst 1, 1) := by decide +kernel
theorem d_R_audit_24 : decode b_R_audit 24 = .ok (.invokestatic 139, 3) := by decide +kernel
theorem d_R_audit_27 : decode b_R_audit 27 = .ok (.istore 4, 2) := by decide +kernel
theorem d_R_audit_29 : decode b_R_audit 29 = .ok (.iload 4, 2) := by decide +kernel
theorem d_R_audit_31 : decode b_R_audit 31 = .ok (.iload_n 3, 1) := by decide +kernel
theorem d_R_audit_32 : decode b_R_audit 32 = .ok (.if_icmp .gt (31), 3) := by decide +kernel
theorem d_R_audit_35 : decode b_R_audit 35 = .ok (.aload_n 0, 1) := by decide +kernel
theorem d_R_audit_36 : decode b_R_audit 36 = .ok (.getfield 12, 3) := by decide +kernel
theorem d_R_audit_39 : decode b_R_audit 39 = .ok (.aload_n 0, 1) := by decide +kernel
theorem d_R_audit_40 : decode b_R_audit 40 = .ok (.getfield 26, 3) := by decide +kernel
theorem d_R_audit_43 : decode b_R_audit 43 = .ok (.iload 4, 2) := by decide +kernel
theorem d_R_audit_45 : decode b_R_audit 45 = .ok (.invokevirtual 142, 3) := by decide +kernel
theorem d_R_audit_48 : decode b_R_audit 48 = .ok (.invokevirtual 145, 3) := by decide +kernel
theorem d_R_audit_51 : decode b_R_audit 51 = .ok (.ifCond .eq (6), 3) := by decide +kernel
theorem d_R_audit_54 : decode b_R_audit 54 = .ok (.iload 4, 2) := by decide +kernel
theorem d_R_audit_56 : decode b_R_audit 56 = .ok (.ireturn, 1) := by decide +kernel
theorem d_R_audit_57 : decode b_R_audit 57 = .ok (.iinc 4 1, 3) := by decide +kernel
theorem d_R_audit_60 : decode b_R_audit 60 = .ok (.goto (-31), 3) := by decide +kernel
theorem d_R_audit_63 : decode b_R_audit 63 = .ok (.iconst 0, 1) := by decide +kernel
theorem d_R_audit_64 : decode b_R_audit 64 = .ok (.ireturn, 1) := by decide +kernel
theorem d_R_exportByte_0 : decode b_R_exportByte 0 = .ok (.aload_n 0, 1) := by decide +kernel
theorem d_R_exportByte_1 : decode b_R_exportByte 1 = .ok (.getfield 20, 3) := by decide +kernel
theorem d_R_exportByte_4 : decode b_R_exportByte 4 = .ok (.invokevirtual 56, 3) := by decide +kernel
theorem d_R_exportByte_7 : decode b_R_exportByte 7 = .ok (.invokestatic 62, 3) := by decide +kernel
theorem d_R_exportByte_10 : decode b_R_exportByte 10 = .ok (.iload_n 3, 1) := by decide +kernel
theorem d_R_exportByte_11 : decode b_R_exportByte 11 = .ok (.ifCond .ge (5), 3) := by decide +kernel
theorem d_R_exportByte_14 : decode b_R_exportByte 14 = .ok (.iconst (-1), 1) := by decide +kernel
theorem d_R_exportByte_15 : decode b_R_exportByte 15 = .ok (.ireturn, 1) := by decide +kernel
theorem d_R_exportByte_16 : decode b_R_exportByte 16 = .ok (.iload_n 2, 1) := by decide +kernel
theorem d_R_exportByte_17 : decode b_R_exportByte 17 = .ok (.aload_n 0, 1) := by decide +kernel
theorem d_R_exportByte_18 : decode b_R_exportByte 18 = .ok (.getfield 26, 3) := by decide +kernel
theorem d_R_exportByte_21 : decode b_R_exportByte 21 = .ok (.invokevirtual 81, 3) := by decide +kernel
theorem d_R_exportByte_24 : decode b_R_exportByte 24 = .ok (.invokestatic 133, 3) := by decide +kernel
theorem d_R_exportByte_27 : decode b_R_exportByte 27 = .ok (.istore 4, 2) := by decide +kernel
theorem d_R_exportByte_29 : decode b_R_exportByte 29 = .ok (.iload_n 3, 1) := by decide +kernel
theorem d_R_exportByte_30 : decode b_R_exportByte 30 = .ok (.istore 5, 2) := by decide +kernel
theorem d_R_exportByte_32 : decode b_R_exportByte 32 = .ok (.iload_n 1, 1) := by decide +kernel
theorem d_R_exportByte_33 : decode b_R_exportByte 33 = .ok (.iconst 1, 1) := by decide +kernel
theorem d_R_exportByte_34 : decode b_R_exportByte 34 = .ok (.invokestatic 139, 3) := by decide +kernel
theorem d_R_exportByte_37 : decode b_R_exportByte 37 = .ok (.istore 6, 2) := by decide +kernel
theorem d_R_exportByte_39 : decode b_R_exportByte 39 = .ok (.iload 6, 2) := by decide +kernel
theorem d_R_exportByte_41 : decode b_R_exportByte 41 = .ok (.iload 4, 2) := by decide +kernel
theorem d_R_exportByte_43 : decode b_R_exportByte 43 = .ok (.if_icmp .gt (56), 3) := by decide +kernel
theorem d_R_exportByte_46 : decode b_R_exportByte 46 = .ok (.aload_n 0, 1) := by decide +kernel
theorem d_R_exportByte_47 : decode b_R_exportByte 47 = .ok (.getfield 33, 3) := by decide +kernel
theorem d_R_exportByte_50 : decode b_R_exportByte 50 = .ok (.aload_n 0, 1) := by decide +kernel
theorem d_R_exportByte_51 : decode b_R_exportByte 51 = .ok (.getfield 26, 3) := by decide +kernel
theorem d_R_exportByte_54 : decode b_R_exportByte 54 = .ok (.iload 6, 2) := by decide +kernel
theorem d_R_exportByte_56 : decode b_R_exportByte 56 = .ok (.invokevirtual 148, 3) := by decide +kernel
theorem d_R_exportByte_59 : decode b_R_exportByte 59 = .ok (.iload 5, 2) := by decide +kernel
theorem d_R_exportByte_61 : decode b_R_exportByte 61 = .ok (.aload_n 0, 1) := by decide +kernel
theorem d_R_exportByte_62 : decode b_R_exportByte 62 = .ok (.getfield 33, 3) := by decide +kernel
theorem d_R_exportByte_65 : decode b_R_exportByte 65 = .ok (.invokevirtual 152, 3) := by decide +kernel
theorem d_R_exportByte_68 : decode b_R_exportByte 68 = .ok (.if_icmp .ge (13), 3) := by decide +kernel
theorem d_R_exportByte_71 : decode b_R_exportByte 71 = .ok (.aload_n 0, 1) := by decide +kernel
theorem d_R_exportByte_72 : decode b_R_exportByte 72 = .ok (.getfield 33, 3) := by decide +kernel
theorem d_R_exportByte_75 : decode b_R_exportByte 75 = .ok (.iload 5, 2) := by decide +kernel
theorem d_R_exportByte_77 : decode b_R_exportByte 77 = .ok (.invokevirtual 155, 3) := by decide +kernel
theorem d_R_exportByte_80 : decode b_R_exportByte 80 = .ok (.ireturn, 1) := by decide +kernel
theorem d_R_exportByte_81 : decode b_R_exportByte 81 = .ok (.iload 5, 2) := by decide +kernel
theorem d_R_exportByte_83 : decode b_R_exportByte 83 = .ok (.aload_n 0, 1) := by decide +kernel
theorem d_R_exportByte_84 : decode b_R_exportByte 84 = .ok (.getfield 33, 3) := by decide +kernel
theorem d_R_exportByte_87 : decode b_R_exportByte 87 = .ok (.invokevirtual 152, 3) := by decide +kernel
theorem d_R_exportByte_90 : decode b_R_exportByte 90 = .ok (.isub, 1) := by decide +kernel
theorem d_R_exportByte_91 : decode b_R_exportByte 91 = .ok (.istore 5, 2) := by decide +kernel
theorem d_R_exportByte_93 : decode b_R_exportByte 93 = .ok (.iinc 6 1, 3) := by decide +kernel
theorem d_R_exportByte_96 : decode b_R_exportByte 96 = .ok (.goto (-57), 3) := by decide +kernel
theorem d_R_exportByte_99 : decode b_R_exportByte 99 = .ok (.iconst (-1), 1) := by decide +kernel
theorem d_R_exportByte_100 : decode b_R_exportByte 100 = .ok (.ireturn, 1) := by decide +kernel
theorem d_R_setProduct_0 : decode b_R_setProduct 0 = .ok (.iload_n 1, 1) := by decide +kernel
theorem d_R_setProduct_1 : decode b_R_setProduct 1 = .ok (.invokestatic 66, 3) := by decide +kernel
theorem d_R_setProduct_4 : decode b_R_setProduct 4 = .ok (.invokestatic 52, 3) := by decide +kernel
theorem d_R_setProduct_7 : decode b_R_setProduct 7 = .ok (.aload_n 0, 1) := by decide +kernel
theorem d_R_setProduct_8 : decode b_R_setProduct 8 = .ok (.getfield 37, 3) := by decide +kernel
theorem d_R_setProduct_11 : decode b_R_setProduct 11 = .ok (.iload_n 1, 1) := by decide +kernel
theorem d_R_setProduct_12 : decode b_R_setProduct 12 = .ok (.iload_n 2, 1) := by decide +kernel
theorem d_R_setProduct_13 : decode b_R_setProduct 13 = .ok (.bastore, 1) := by decide +kernel
theorem d_R_setProduct_14 : decode b_R_setProduct 14 = .ok (.return_, 1) := by decide +kernel
theorem d_R_cutAfter_0 : decode b_R_cutAfter 0 = .ok (.iload_n 1, 1) := by decide +kernel
theorem d_R_cutAfter_1 : decode b_R_cutAfter 1 = .ok (.iconst 0, 1) := by decide +kernel
theorem d_R_cutAfter_2 : decode b_R_cutAfter 2 = .ok (.sipush 300, 3) := by decide +kernel
theorem d_R_cutAfter_5 : decode b_R_cutAfter 5 = .ok (.invokestatic 48, 3) := by decide +kernel
theorem d_R_cutAfter_8 : decode b_R_cutAfter 8 = .ok (.invokestatic 52, 3) := by decide +kernel
theorem d_R_cutAfter_11 : decode b_R_cutAfter 11 = .ok (.aload_n 0, 1) := by decide +kernel
theorem d_R_cutAfter_12 : decode b_R_cutAfter 12 = .ok (.getfield 20, 3) := by decide +kernel
theorem d_R_cutAfter_15 : decode b_R_cutAfter 15 = .ok (.iload_n 1, 1) := by decide +kernel
theorem d_R_cutAfter_16 : decode b_R_cutAfter 16 = .ok (.invokevirtual 158, 3) := by decide +kernel
theorem d_R_cutAfter_19 : decode b_R_cutAfter 19 = .ok (.return_, 1) := by decide +kernel
theorem d_R_crash_0 : decode b_R_crash 0 = .ok (.aload_n 0, 1) := by decide +kernel
theorem d_R_crash_1 : decode b_R_crash 1 = .ok (.getfield 20, 3) := by decide +kernel
theorem d_R_crash_4 : decode b_R_crash 4 = .ok (.invokevirtual 162, 3) := by decide +kernel
theorem d_R_crash_7 : decode b_R_crash 7 = .ok (.return_, 1) := by decide +kernel
theorem d_R_mount_0 : decode b_R_mount 0 = .ok (.aload_n 0, 1) := by decide +kernel
theorem d_R_mount_1 : decode b_R_mount 1 = .ok (.getfield 20, 3) := by decide +kernel
theorem d_R_mount_4 : decode b_R_mount 4 = .ok (.invokevirtual 162, 3) := by decide +kernel
theorem d_R_mount_7 : decode b_R_mount 7 = .ok (.aload_n 0, 1) := by decide +kernel
theorem d_R_mount_8 : decode b_R_mount 8 = .ok (.invokevirtual 78, 3) := by decide +kernel
theorem d_R_mount_11 : decode b_R_mount 11 = .ok (.aload_n 0, 1) := by decide +kernel
theorem d_R_mount_12 : decode b_R_mount 12 = .ok (.getfield 12, 3) := by decide +kernel
theorem d_R_mount_15 : decode b_R_mount 15 = .ok (.aload_n 0, 1) := by decide +kernel
theorem d_R_mount_16 : decode b_R_mount 16 = .ok (.getfield 26, 3) := by decide +kernel
theorem d_R_mount_19 : decode b_R_mount 19 = .ok (.invokevirtual 165, 3) := by decide +kernel
theorem d_R_mount_22 : decode b_R_mount 22 = .ok (.aload_n 0, 1) := by decide +kernel
theorem d_R_mount_23 : decode b_R_mount 23 = .ok (.getfield 20, 3) := by decide +kernel
theorem d_R_mount_26 : decode b_R_mount 26 = .ok (.invokevirtual 169, 3) := by decide +kernel
theorem d_R_mount_29 : decode b_R_mount 29 = .ok (.aload_n 0, 1) := by decide +kernel
theorem d_R_mount_30 : decode b_R_mount 30 = .ok (.getfield 26, 3) := by decide +kernel
theorem d_R_mount_33 : decode b_R_mount 33 = .ok (.invokevirtual 81, 3) := by decide +kernel
theorem d_R_mount_36 : decode b_R_mount 36 = .ok (.ireturn, 1) := by decide +kernel
theorem d_R_wearOf_0 : decode b_R_wearOf 0 = .ok (.iload_n 1, 1) := by decide +kernel
theorem d_R_wearOf_1 : decode b_R_wearOf 1 = .ok (.iconst 0, 1) := by decide +kernel
theorem d_R_wearOf_2 : decode b_R_wearOf 2 = .ok (.bipush 7, 2) := by decide +kernel
theorem d_R_wearOf_4 : decode b_R_wearOf 4 = .ok (.invokestatic 48, 3) := by decide +kernel
theorem d_R_wearOf_7 : decode b_R_wearOf 7 = .ok (.invokestatic 52, 3) := by decide +kernel
theorem d_R_wearOf_10 : decode b_R_wearOf 10 = .ok (.aload_n 0, 1) := by decide +kernel
theorem d_R_wearOf_11 : decode b_R_wearOf 11 = .ok (.getfield 20, 3) := by decide +kernel
theorem d_R_wearOf_14 : decode b_R_wearOf 14 = .ok (.iload_n 1, 1) := by decide +kernel
theorem d_R_wearOf_15 : decode b_R_wearOf 15 = .ok (.invokevirtual 172, 3) := by decide +kernel
theorem d_R_wearOf_18 : decode b_R_wearOf 18 = .ok (.ireturn, 1) := by decide +kernel
theorem d_R_failBlock_0 : decode b_R_failBlock 0 = .ok (.iload_n 1, 1) := by decide +kernel
theorem d_R_failBlock_1 : decode b_R_failBlock 1 = .ok (.iconst 0, 1) := by decide +kernel
theorem d_R_failBlock_2 : decode b_R_failBlock 2 = .ok (.bipush 7, 2) := by decide +kernel
theorem d_R_failBlock_4 : decode b_R_failBlock 4 = .ok (.invokestatic 48, 3) := by decide +kernel
theorem d_R_failBlock_7 : decode b_R_failBlock 7 = .ok (.invokestatic 52, 3) := by decide +kernel
theorem d_R_failBlock_10 : decode b_R_failBlock 10 = .ok (.aload_n 0, 1) := by decide +kernel
theorem d_R_failBlock_11 : decode b_R_failBlock 11 = .ok (.getfield 20, 3) := by decide +kernel
theorem d_R_failBlock_14 : decode b_R_failBlock 14 = .ok (.iload_n 1, 1) := by decide +kernel
theorem d_R_failBlock_15 : decode b_R_failBlock 15 = .ok (.invokevirtual 175, 3) := by decide +kernel
theorem d_R_failBlock_18 : decode b_R_failBlock 18 = .ok (.return_, 1) := by decide +kernel
theorem d_R_poke_0 : decode b_R_poke 0 = .ok (.iload_n 1, 1) := by decide +kernel
theorem d_R_poke_1 : decode b_R_poke 1 = .ok (.iload_n 2, 1) := by decide +kernel
theorem d_R_poke_2 : decode b_R_poke 2 = .ok (.invokestatic 178, 3) := by decide +kernel
theorem d_R_poke_5 : decode b_R_poke 5 = .ok (.invokestatic 52, 3) := by decide +kernel
theorem d_R_poke_8 : decode b_R_poke 8 = .ok (.aload_n 0, 1) := by decide +kernel
theorem d_R_poke_9 : decode b_R_poke 9 = .ok (.getfield 20, 3) := by decide +kernel
theorem d_R_poke_12 : decode b_R_poke 12 = .ok (.iload_n 1, 1) := by decide +kernel
theorem d_R_poke_13 : decode b_R_poke 13 = .ok (.iload_n 2, 1) := by decide +kernel
theorem d_R_poke_14 : decode b_R_poke 14 = .ok (.iload_n 3, 1) := by decide +kernel
theorem d_R_poke_15 : decode b_R_poke 15 = .ok (.invokevirtual 182, 3) := by decide +kernel
theorem d_R_poke_18 : decode b_R_poke 18 = .ok (.return_, 1) := by decide +kernel
theorem d_R_word_0 : decode b_R_word 0 = .ok (.iload_n 1, 1) := by decide +kernel
theorem d_R_word_1 : decode b_R_word 1 = .ok (.iload_n 2, 1) := by decide +kernel
theorem d_R_word_2 : decode b_R_word 2 = .ok (.invokestatic 178, 3) := by decide +kernel
theorem d_R_word_5 : decode b_R_word 5 = .ok (.invokestatic 105, 3) := by decide +kernel
theorem d_R_word_8 : decode b_R_word 8 = .ok (.aload_n 0, 1) := by decide +kernel
theorem d_R_word_9 : decode b_R_word 9 = .ok (.getfield 20, 3) := by decide +kernel
theorem d_R_word_12 : decode b_R_word 12 = .ok (.iload_n 1, 1) := by decide +kernel
theorem d_R_word_13 : decode b_R_word 13 = .ok (.iload_n 2, 1) := by decide +kernel
theorem d_R_word_14 : decode b_R_word 14 = .ok (.invokevirtual 186, 3) := by decide +kernel
theorem d_R_word_17 : decode b_R_word 17 = .ok (.ireturn, 1) := by decide +kernel
theorem d_R_state_0 : decode b_R_state 0 = .ok (.aload_n 0, 1) := by decide +kernel
theorem d_R_state_1 : decode b_R_state 1 = .ok (.getfield 20, 3) := by decide +kernel
theorem d_R_state_4 : decode b_R_state 4 = .ok (.invokevirtual 56, 3) := by decide +kernel
theorem d_R_state_7 : decode b_R_state 7 = .ok (.istore_n 2, 1) := by decide +kernel
theorem d_R_state_8 : decode b_R_state 8 = .ok (.iload_n 1, 1) := by decide +kernel
theorem d_R_state_9 : decode b_R_state 9 = .ok (.tableswitch 178 0 8 #[51, 67, 83, 99, 115, 128, 144, 160, 168], 51) := by decide +kernel
theorem d_R_state_60 : decode b_R_state 60 = .ok (.iload_n 2, 1) := by decide +kernel
theorem d_R_state_61 : decode b_R_state 61 = .ok (.ifCond .eq (13), 3) := by decide +kernel
theorem d_R_state_64 : decode b_R_state 64 = .ok (.aload_n 0, 1) := by decide +kernel
theorem d_R_state_65 : decode b_R_state 65 = .ok (.getfield 26, 3) := by decide +kernel
theorem d_R_state_68 : decode b_R_state 68 = .ok (.invokevirtual 95, 3) := by decide +kernel
theorem d_R_state_71 : decode b_R_state 71 = .ok (.goto (4), 3) := by decide +kernel
theorem d_R_state_74 : decode b_R_state 74 = .ok (.iconst 0, 1) := by decide +kernel
theorem d_R_state_75 : decode b_R_state 75 = .ok (.ireturn, 1) := by decide +kernel
theorem d_R_state_76 : decode b_R_state 76 = .ok (.iload_n 2, 1) := by decide +kernel
theorem d_R_state_77 : decode b_R_state 77 = .ok (.ifCond .eq (13), 3) := by decide +kernel
theorem d_R_state_80 : decode b_R_state 80 = .ok (.aload_n 0, 1) := by decide +kernel
theorem d_R_state_81 : decode b_R_state 81 = .ok (.getfield 12, 3) := by decide +kernel
theorem d_R_state_84 : decode b_R_state 84 = .ok (.invokevirtual 92, 3) := by decide +kernel
theorem d_R_state_87 : decode b_R_state 87 = .ok (.goto (4), 3) := by decide +kernel
theorem d_R_state_90 : decode b_R_state 90 = .ok (.iconst 0, 1) := by decide +kernel
theorem d_R_state_91 : decode b_R_state 91 = .ok (.ireturn, 1) := by decide +kernel
theorem d_R_state_92 : decode b_R_state 92 = .ok (.iload_n 2, 1) := by decide +kernel
theorem d_R_state_93 : decode b_R_state 93 = .ok (.ifCond .eq (13), 3) := by decide +kernel
theorem d_R_state_96 : decode b_R_state 96 = .ok (.aload_n 0, 1) := by decide +kernel
theorem d_R_state_97 : decode b_R_state 97 = .ok (.getfield 26, 3) := by decide +kernel
theorem d_R_state_100 : decode b_R_state 100 = .ok (.invokevirtual 81, 3) := by decide +kernel
theorem d_R_state_103 : decode b_R_state 103 = .ok (.goto (4), 3) := by decide +kernel
theorem d_R_state_106 : decode b_R_state 106 = .ok (.iconst 0, 1) := by decide +kernel
theorem d_R_state_107 : decode b_R_state 107 = .ok (.ireturn, 1) := by decide +kernel
theorem d_R_state_108 : decode b_R_state 108 = .ok (.iload_n 2, 1) := by decide +kernel
theorem d_R_state_109 : decode b_R_state 109 = .ok (.ifCond .eq (13), 3) := by decide +kernel
theorem d_R_state_112 : decode b_R_state 112 = .ok (.aload_n 0, 1) := by decide +kernel
theorem d_R_state_113 : decode b_R_state 113 = .ok (.getfield 12, 3) := by decide +kernel
theorem d_R_state_116 : decode b_R_state 116 = .ok (.invokevirtual 189, 3) := by decide +kernel
theorem d_R_state_119 : decode b_R_state 119 = .ok (.goto (4), 3) := by decide +kernel
theorem d_R_state_122 : decode b_R_state 122 = .ok (.iconst 0, 1) := by decide +kernel
theorem d_R_state_123 : decode b_R_state 123 = .ok (.ireturn, 1) := by decide +kernel
theorem d_R_state_124 : decode b_R_state 124 = .ok (.iload_n 2, 1) := by decide +kernel
theorem d_R_state_125 : decode b_R_state 125 = .ok (.ifCond .eq (10), 3) := by decide +kernel
theorem d_R_state_128 : decode b_R_state 128 = .ok (.aload_n 0, 1) := by decide +kernel
theorem d_R_state_129 : decode b_R_state 129 = .ok (.getfield 41, 3) := by decide +kernel
theorem d_R_state_132 : decode b_R_state 132 = .ok (.goto (4), 3) := by decide +kernel
theorem d_R_state_135 : decode b_R_state 135 = .ok (.iconst 0, 1) := by decide +kernel
theorem d_R_state_136 : decode b_R_state 136 = .ok (.ireturn, 1) := by decide +kernel
theorem d_R_state_137 : decode b_R_state 137 = .ok (.iload_n 2, 1) := by decide +kernel
theorem d_R_state_138 : decode b_R_state 138 = .ok (.ifCond .eq (13), 3) := by decide +kernel
theorem d_R_state_141 : decode b_R_state 141 = .ok (.aload_n 0, 1) := by decide +kernel
theorem d_R_state_142 : decode b_R_state 142 = .ok (.getfield 12, 3) := by decide +kernel
theorem d_R_state_145 : decode b_R_state 145 = .ok (.invokevirtual 192, 3) := by decide +kernel
theorem d_R_state_148 : decode b_R_state 148 = .ok (.goto (4), 3) := by decide +kernel
theorem d_R_state_151 : decode b_R_state 151 = .ok (.iconst 0, 1) := by decide +kernel
theorem d_R_state_152 : decode b_R_state 152 = .ok (.ireturn, 1) := by decide +kernel
theorem d_R_state_153 : decode b_R_state 153 = .ok (.iload_n 2, 1) := by decide +kernel
theorem d_R_state_154 : decode b_R_state 154 = .ok (.ifCond .eq (13), 3) := by decide +kernel
theorem d_R_state_157 : decode b_R_state 157 = .ok (.aload_n 0, 1) := by decide +kernel
theorem d_R_state_158 : decode b_R_state 158 = .ok (.getfield 12, 3) := by decide +kernel
theorem d_R_state_161 : decode b_R_state 161 = .ok (.invokevirtual 195, 3) := by decide +kernel
theorem d_R_state_164 : decode b_R_state 164 = .ok (.goto (4), 3) := by decide +kernel
theorem d_R_state_167 : decode b_R_state 167 = .ok (.iconst (-1), 1) := by decide +kernel
theorem d_R_state_168 : decode b_R_state 168 = .ok (.ireturn, 1) := by decide +kernel
