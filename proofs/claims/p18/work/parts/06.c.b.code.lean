theorem d_S_livePageCount_27 : decode b_S_livePageCount 27 = .ok (.iload_n 1, 1) := by decide +kernel
theorem d_S_livePageCount_28 : decode b_S_livePageCount 28 = .ok (.ireturn, 1) := by decide +kernel
theorem d_S_hasLivePages_0 : decode b_S_hasLivePages 0 = .ok (.iload_n 1, 1) := by decide +kernel
theorem d_S_hasLivePages_1 : decode b_S_hasLivePages 1 = .ok (.iconst 4, 1) := by decide +kernel
theorem d_S_hasLivePages_2 : decode b_S_hasLivePages 2 = .ok (.imul, 1) := by decide +kernel
theorem d_S_hasLivePages_3 : decode b_S_hasLivePages 3 = .ok (.istore_n 2, 1) := by decide +kernel
theorem d_S_hasLivePages_4 : decode b_S_hasLivePages 4 = .ok (.iload_n 2, 1) := by decide +kernel
theorem d_S_hasLivePages_5 : decode b_S_hasLivePages 5 = .ok (.iload_n 1, 1) := by decide +kernel
theorem d_S_hasLivePages_6 : decode b_S_hasLivePages 6 = .ok (.iconst 1, 1) := by decide +kernel
theorem d_S_hasLivePages_7 : decode b_S_hasLivePages 7 = .ok (.iadd, 1) := by decide +kernel
theorem d_S_hasLivePages_8 : decode b_S_hasLivePages 8 = .ok (.iconst 4, 1) := by decide +kernel
theorem d_S_hasLivePages_9 : decode b_S_hasLivePages 9 = .ok (.imul, 1) := by decide +kernel
theorem d_S_hasLivePages_10 : decode b_S_hasLivePages 10 = .ok (.if_icmp .ge (19), 3) := by decide +kernel
theorem d_S_hasLivePages_13 : decode b_S_hasLivePages 13 = .ok (.aload_n 0, 1) := by decide +kernel
theorem d_S_hasLivePages_14 : decode b_S_hasLivePages 14 = .ok (.iload_n 2, 1) := by decide +kernel
theorem d_S_hasLivePages_15 : decode b_S_hasLivePages 15 = .ok (.invokevirtual 39, 3) := by decide +kernel
theorem d_S_hasLivePages_18 : decode b_S_hasLivePages 18 = .ok (.ifCond .eq (5), 3) := by decide +kernel
theorem d_S_hasLivePages_21 : decode b_S_hasLivePages 21 = .ok (.iconst 1, 1) := by decide +kernel
theorem d_S_hasLivePages_22 : decode b_S_hasLivePages 22 = .ok (.ireturn, 1) := by decide +kernel
theorem d_S_hasLivePages_23 : decode b_S_hasLivePages 23 = .ok (.iinc 2 1, 3) := by decide +kernel
theorem d_S_hasLivePages_26 : decode b_S_hasLivePages 26 = .ok (.goto (-22), 3) := by decide +kernel
theorem d_S_hasLivePages_29 : decode b_S_hasLivePages 29 = .ok (.iconst 0, 1) := by decide +kernel
theorem d_S_hasLivePages_30 : decode b_S_hasLivePages 30 = .ok (.ireturn, 1) := by decide +kernel
theorem d_S_stalePagesOf_0 : decode b_S_stalePagesOf 0 = .ok (.iconst 0, 1) := by decide +kernel
theorem d_S_stalePagesOf_1 : decode b_S_stalePagesOf 1 = .ok (.istore_n 2, 1) := by decide +kernel
theorem d_S_stalePagesOf_2 : decode b_S_stalePagesOf 2 = .ok (.iload_n 1, 1) := by decide +kernel
theorem d_S_stalePagesOf_3 : decode b_S_stalePagesOf 3 = .ok (.iconst 4, 1) := by decide +kernel
theorem d_S_stalePagesOf_4 : decode b_S_stalePagesOf 4 = .ok (.imul, 1) := by decide +kernel
theorem d_S_stalePagesOf_5 : decode b_S_stalePagesOf 5 = .ok (.istore_n 3, 1) := by decide +kernel
theorem d_S_stalePagesOf_6 : decode b_S_stalePagesOf 6 = .ok (.iload_n 3, 1) := by decide +kernel
theorem d_S_stalePagesOf_7 : decode b_S_stalePagesOf 7 = .ok (.iload_n 1, 1) := by decide +kernel
theorem d_S_stalePagesOf_8 : decode b_S_stalePagesOf 8 = .ok (.iconst 1, 1) := by decide +kernel
theorem d_S_stalePagesOf_9 : decode b_S_stalePagesOf 9 = .ok (.iadd, 1) := by decide +kernel
theorem d_S_stalePagesOf_10 : decode b_S_stalePagesOf 10 = .ok (.iconst 4, 1) := by decide +kernel
theorem d_S_stalePagesOf_11 : decode b_S_stalePagesOf 11 = .ok (.imul, 1) := by decide +kernel
theorem d_S_stalePagesOf_12 : decode b_S_stalePagesOf 12 = .ok (.if_icmp .ge (31), 3) := by decide +kernel
theorem d_S_stalePagesOf_15 : decode b_S_stalePagesOf 15 = .ok (.aload_n 0, 1) := by decide +kernel
theorem d_S_stalePagesOf_16 : decode b_S_stalePagesOf 16 = .ok (.getfield 12, 3) := by decide +kernel
theorem d_S_stalePagesOf_19 : decode b_S_stalePagesOf 19 = .ok (.iload_n 3, 1) := by decide +kernel
theorem d_S_stalePagesOf_20 : decode b_S_stalePagesOf 20 = .ok (.invokevirtual 72, 3) := by decide +kernel
theorem d_S_stalePagesOf_23 : decode b_S_stalePagesOf 23 = .ok (.ifCond .ne (14), 3) := by decide +kernel
theorem d_S_stalePagesOf_26 : decode b_S_stalePagesOf 26 = .ok (.aload_n 0, 1) := by decide +kernel
theorem d_S_stalePagesOf_27 : decode b_S_stalePagesOf 27 = .ok (.iload_n 3, 1) := by decide +kernel
theorem d_S_stalePagesOf_28 : decode b_S_stalePagesOf 28 = .ok (.invokevirtual 39, 3) := by decide +kernel
theorem d_S_stalePagesOf_31 : decode b_S_stalePagesOf 31 = .ok (.ifCond .ne (6), 3) := by decide +kernel
theorem d_S_stalePagesOf_34 : decode b_S_stalePagesOf 34 = .ok (.iinc 2 1, 3) := by decide +kernel
theorem d_S_stalePagesOf_37 : decode b_S_stalePagesOf 37 = .ok (.iinc 3 1, 3) := by decide +kernel
theorem d_S_stalePagesOf_40 : decode b_S_stalePagesOf 40 = .ok (.goto (-34), 3) := by decide +kernel
theorem d_S_stalePagesOf_43 : decode b_S_stalePagesOf 43 = .ok (.iload_n 2, 1) := by decide +kernel
theorem d_S_stalePagesOf_44 : decode b_S_stalePagesOf 44 = .ok (.ireturn, 1) := by decide +kernel
theorem d_S_chooseVictim_0 : decode b_S_chooseVictim 0 = .ok (.iconst (-1), 1) := by decide +kernel
theorem d_S_chooseVictim_1 : decode b_S_chooseVictim 1 = .ok (.istore_n 1, 1) := by decide +kernel
theorem d_S_chooseVictim_2 : decode b_S_chooseVictim 2 = .ok (.iconst 0, 1) := by decide +kernel
theorem d_S_chooseVictim_3 : decode b_S_chooseVictim 3 = .ok (.istore_n 2, 1) := by decide +kernel
theorem d_S_chooseVictim_4 : decode b_S_chooseVictim 4 = .ok (.iconst 0, 1) := by decide +kernel
theorem d_S_chooseVictim_5 : decode b_S_chooseVictim 5 = .ok (.istore_n 3, 1) := by decide +kernel
theorem d_S_chooseVictim_6 : decode b_S_chooseVictim 6 = .ok (.iload_n 3, 1) := by decide +kernel
theorem d_S_chooseVictim_7 : decode b_S_chooseVictim 7 = .ok (.bipush 8, 2) := by decide +kernel
theorem d_S_chooseVictim_9 : decode b_S_chooseVictim 9 = .ok (.if_icmp .ge (42), 3) := by decide +kernel
theorem d_S_chooseVictim_12 : decode b_S_chooseVictim 12 = .ok (.aload_n 0, 1) := by decide +kernel
theorem d_S_chooseVictim_13 : decode b_S_chooseVictim 13 = .ok (.getfield 12, 3) := by decide +kernel
theorem d_S_chooseVictim_16 : decode b_S_chooseVictim 16 = .ok (.iload_n 3, 1) := by decide +kernel
theorem d_S_chooseVictim_17 : decode b_S_chooseVictim 17 = .ok (.invokevirtual 63, 3) := by decide +kernel
theorem d_S_chooseVictim_20 : decode b_S_chooseVictim 20 = .ok (.ifCond .eq (7), 3) := by decide +kernel
theorem d_S_chooseVictim_23 : decode b_S_chooseVictim 23 = .ok (.iconst 0, 1) := by decide +kernel
theorem d_S_chooseVictim_24 : decode b_S_chooseVictim 24 = .ok (.goto (8), 3) := by decide +kernel
theorem d_S_chooseVictim_27 : decode b_S_chooseVictim 27 = .ok (.aload_n 0, 1) := by decide +kernel
theorem d_S_chooseVictim_28 : decode b_S_chooseVictim 28 = .ok (.iload_n 3, 1) := by decide +kernel
theorem d_S_chooseVictim_29 : decode b_S_chooseVictim 29 = .ok (.invokevirtual 69, 3) := by decide +kernel
theorem d_S_chooseVictim_32 : decode b_S_chooseVictim 32 = .ok (.istore 4, 2) := by decide +kernel
theorem d_S_chooseVictim_34 : decode b_S_chooseVictim 34 = .ok (.iload 4, 2) := by decide +kernel
theorem d_S_chooseVictim_36 : decode b_S_chooseVictim 36 = .ok (.iload_n 2, 1) := by decide +kernel
theorem d_S_chooseVictim_37 : decode b_S_chooseVictim 37 = .ok (.if_icmp .le (8), 3) := by decide +kernel
theorem d_S_chooseVictim_40 : decode b_S_chooseVictim 40 = .ok (.iload_n 3, 1) := by decide +kernel
theorem d_S_chooseVictim_41 : decode b_S_chooseVictim 41 = .ok (.istore_n 1, 1) := by decide +kernel
theorem d_S_chooseVictim_42 : decode b_S_chooseVictim 42 = .ok (.iload 4, 2) := by decide +kernel
theorem d_S_chooseVictim_44 : decode b_S_chooseVictim 44 = .ok (.istore_n 2, 1) := by decide +kernel
theorem d_S_chooseVictim_45 : decode b_S_chooseVictim 45 = .ok (.iinc 3 1, 3) := by decide +kernel
theorem d_S_chooseVictim_48 : decode b_S_chooseVictim 48 = .ok (.goto (-42), 3) := by decide +kernel
theorem d_S_chooseVictim_51 : decode b_S_chooseVictim 51 = .ok (.iload_n 1, 1) := by decide +kernel
theorem d_S_chooseVictim_52 : decode b_S_chooseVictim 52 = .ok (.ireturn, 1) := by decide +kernel
theorem d_S_freePageOfCursor_0 : decode b_S_freePageOfCursor 0 = .ok (.aload_n 0, 1) := by decide +kernel
theorem d_S_freePageOfCursor_1 : decode b_S_freePageOfCursor 1 = .ok (.getfield 25, 3) := by decide +kernel
theorem d_S_freePageOfCursor_4 : decode b_S_freePageOfCursor 4 = .ok (.iconst (-1), 1) := by decide +kernel
theorem d_S_freePageOfCursor_5 : decode b_S_freePageOfCursor 5 = .ok (.if_icmp .eq (17), 3) := by decide +kernel
theorem d_S_freePageOfCursor_8 : decode b_S_freePageOfCursor 8 = .ok (.aload_n 0, 1) := by decide +kernel
theorem d_S_freePageOfCursor_9 : decode b_S_freePageOfCursor 9 = .ok (.getfield 12, 3) := by decide +kernel
theorem d_S_freePageOfCursor_12 : decode b_S_freePageOfCursor 12 = .ok (.aload_n 0, 1) := by decide +kernel
theorem d_S_freePageOfCursor_13 : decode b_S_freePageOfCursor 13 = .ok (.getfield 25, 3) := by decide +kernel
theorem d_S_freePageOfCursor_16 : decode b_S_freePageOfCursor 16 = .ok (.invokevirtual 63, 3) := by decide +kernel
theorem d_S_freePageOfCursor_19 : decode b_S_freePageOfCursor 19 = .ok (.ifCond .eq (7), 3) := by decide +kernel
theorem d_S_freePageOfCursor_22 : decode b_S_freePageOfCursor 22 = .ok (.iconst (-1), 1) := by decide +kernel
theorem d_S_freePageOfCursor_23 : decode b_S_freePageOfCursor 23 = .ok (.goto (14), 3) := by decide +kernel
theorem d_S_freePageOfCursor_26 : decode b_S_freePageOfCursor 26 = .ok (.aload_n 0, 1) := by decide +kernel
theorem d_S_freePageOfCursor_27 : decode b_S_freePageOfCursor 27 = .ok (.getfield 12, 3) := by decide +kernel
theorem d_S_freePageOfCursor_30 : decode b_S_freePageOfCursor 30 = .ok (.aload_n 0, 1) := by decide +kernel
theorem d_S_freePageOfCursor_31 : decode b_S_freePageOfCursor 31 = .ok (.getfield 25, 3) := by decide +kernel
theorem d_S_freePageOfCursor_34 : decode b_S_freePageOfCursor 34 = .ok (.invokevirtual 66, 3) := by decide +kernel
theorem d_S_freePageOfCursor_37 : decode b_S_freePageOfCursor 37 = .ok (.ireturn, 1) := by decide +kernel
theorem d_S_sealRow_0 : decode b_S_sealRow 0 = .ok (.aload_n 0, 1) := by decide +kernel
theorem d_S_sealRow_1 : decode b_S_sealRow 1 = .ok (.dup, 1) := by decide +kernel
theorem d_S_sealRow_2 : decode b_S_sealRow 2 = .ok (.getfield 29, 3) := by decide +kernel
theorem d_S_sealRow_5 : decode b_S_sealRow 5 = .ok (.iconst 1, 1) := by decide +kernel
theorem d_S_sealRow_6 : decode b_S_sealRow 6 = .ok (.iadd, 1) := by decide +kernel
theorem d_S_sealRow_7 : decode b_S_sealRow 7 = .ok (.putfield 29, 3) := by decide +kernel
theorem d_S_sealRow_10 : decode b_S_sealRow 10 = .ok (.aload_n 0, 1) := by decide +kernel
theorem d_S_sealRow_11 : decode b_S_sealRow 11 = .ok (.getfield 22, 3) := by decide +kernel
theorem d_S_sealRow_14 : decode b_S_sealRow 14 = .ok (.iconst 1, 1) := by decide +kernel
theorem d_S_sealRow_15 : decode b_S_sealRow 15 = .ok (.aload_n 0, 1) := by decide +kernel
theorem d_S_sealRow_16 : decode b_S_sealRow 16 = .ok (.getfield 29, 3) := by decide +kernel
theorem d_S_sealRow_19 : decode b_S_sealRow 19 = .ok (.iastore, 1) := by decide +kernel
theorem d_S_sealRow_20 : decode b_S_sealRow 20 = .ok (.aload_n 0, 1) := by decide +kernel
theorem d_S_sealRow_21 : decode b_S_sealRow 21 = .ok (.getfield 22, 3) := by decide +kernel
theorem d_S_sealRow_24 : decode b_S_sealRow 24 = .ok (.bipush 14, 2) := by decide +kernel
theorem d_S_sealRow_26 : decode b_S_sealRow 26 = .ok (.aload_n 0, 1) := by decide +kernel
theorem d_S_sealRow_27 : decode b_S_sealRow 27 = .ok (.getfield 22, 3) := by decide +kernel
theorem d_S_sealRow_30 : decode b_S_sealRow 30 = .ok (.iconst 0, 1) := by decide +kernel
theorem d_S_sealRow_31 : decode b_S_sealRow 31 = .ok (.bipush 14, 2) := by decide +kernel
theorem d_S_sealRow_33 : decode b_S_sealRow 33 = .ok (.invokestatic 105, 3) := by decide +kernel
theorem d_S_sealRow_36 : decode b_S_sealRow 36 = .ok (.iastore, 1) := by decide +kernel
theorem d_S_sealRow_37 : decode b_S_sealRow 37 = .ok (.aload_n 0, 1) := by decide +kernel
theorem d_S_sealRow_38 : decode b_S_sealRow 38 = .ok (.getfield 22, 3) := by decide +kernel
theorem d_S_sealRow_41 : decode b_S_sealRow 41 = .ok (.bipush 15, 2) := by decide +kernel
theorem d_S_sealRow_43 : decode b_S_sealRow 43 = .ok (.ldc 109, 2) := by decide +kernel
theorem d_S_sealRow_45 : decode b_S_sealRow 45 = .ok (.iastore, 1) := by decide +kernel
theorem d_S_sealRow_46 : decode b_S_sealRow 46 = .ok (.return_, 1) := by decide +kernel
theorem d_S_reclaim_0 : decode b_S_reclaim 0 = .ok (.iload_n 1, 1) := by decide +kernel
theorem d_S_reclaim_1 : decode b_S_reclaim 1 = .ok (.iconst (-1), 1) := by decide +kernel
theorem d_S_reclaim_2 : decode b_S_reclaim 2 = .ok (.if_icmp .eq (11), 3) := by decide +kernel
theorem d_S_reclaim_5 : decode b_S_reclaim 5 = .ok (.aload_n 0, 1) := by decide +kernel
theorem d_S_reclaim_6 : decode b_S_reclaim 6 = .ok (.iload_n 1, 1) := by decide +kernel
theorem d_S_reclaim_7 : decode b_S_reclaim 7 = .ok (.invokevirtual 75, 3) := by decide +kernel
theorem d_S_reclaim_10 : decode b_S_reclaim 10 = .ok (.ifCond .eq (10), 3) := by decide +kernel
theorem d_S_reclaim_13 : decode b_S_reclaim 13 = .ok (.aload_n 0, 1) := by decide +kernel
theorem d_S_reclaim_14 : decode b_S_reclaim 14 = .ok (.iconst 1, 1) := by decide +kernel
theorem d_S_reclaim_15 : decode b_S_reclaim 15 = .ok (.putfield 35, 3) := by decide +kernel
theorem d_S_reclaim_18 : decode b_S_reclaim 18 = .ok (.iconst (-1), 1) := by decide +kernel
theorem d_S_reclaim_19 : decode b_S_reclaim 19 = .ok (.ireturn, 1) := by decide +kernel
theorem d_S_reclaim_20 : decode b_S_reclaim 20 = .ok (.aload_n 0, 1) := by decide +kernel
theorem d_S_reclaim_21 : decode b_S_reclaim 21 = .ok (.getfield 12, 3) := by decide +kernel
theorem d_S_reclaim_24 : decode b_S_reclaim 24 = .ok (.iload_n 1, 1) := by decide +kernel
theorem d_S_reclaim_25 : decode b_S_reclaim 25 = .ok (.invokevirtual 78, 3) := by decide +kernel
theorem d_S_reclaim_28 : decode b_S_reclaim 28 = .ok (.ifCond .ne (6), 3) := by decide +kernel
theorem d_S_reclaim_31 : decode b_S_reclaim 31 = .ok (.bipush (-2), 2) := by decide +kernel
theorem d_S_reclaim_33 : decode b_S_reclaim 33 = .ok (.ireturn, 1) := by decide +kernel
theorem d_S_reclaim_34 : decode b_S_reclaim 34 = .ok (.aload_n 0, 1) := by decide +kernel
theorem d_S_reclaim_35 : decode b_S_reclaim 35 = .ok (.iload_n 1, 1) := by decide +kernel
theorem d_S_reclaim_36 : decode b_S_reclaim 36 = .ok (.putfield 25, 3) := by decide +kernel
theorem d_S_reclaim_39 : decode b_S_reclaim 39 = .ok (.iconst 1, 1) := by decide +kernel
theorem d_S_reclaim_40 : decode b_S_reclaim 40 = .ok (.ireturn, 1) := by decide +kernel
theorem d_S_rewritePage_0 : decode b_S_rewritePage 0 = .ok (.iconst 0, 1) := by decide +kernel
theorem d_S_rewritePage_1 : decode b_S_rewritePage 1 = .ok (.istore_n 3, 1) := by decide +kernel
theorem d_S_rewritePage_2 : decode b_S_rewritePage 2 = .ok (.iload_n 3, 1) := by decide +kernel
theorem d_S_rewritePage_3 : decode b_S_rewritePage 3 = .ok (.bipush 14, 2) := by decide +kernel
theorem d_S_rewritePage_5 : decode b_S_rewritePage 5 = .ok (.if_icmp .ge (24), 3) := by decide +kernel
theorem d_S_rewritePage_8 : decode b_S_rewritePage 8 = .ok (.aload_n 0, 1) := by decide +kernel
theorem d_S_rewritePage_9 : decode b_S_rewritePage 9 = .ok (.getfield 22, 3) := by decide +kernel
theorem d_S_rewritePage_12 : decode b_S_rewritePage 12 = .ok (.iload_n 3, 1) := by decide +kernel
theorem d_S_rewritePage_13 : decode b_S_rewritePage 13 = .ok (.aload_n 0, 1) := by decide +kernel
theorem d_S_rewritePage_14 : decode b_S_rewritePage 14 = .ok (.getfield 12, 3) := by decide +kernel
theorem d_S_rewritePage_17 : decode b_S_rewritePage 17 = .ok (.iload_n 1, 1) := by decide +kernel
theorem d_S_rewritePage_18 : decode b_S_rewritePage 18 = .ok (.iload_n 3, 1) := by decide +kernel
theorem d_S_rewritePage_19 : decode b_S_rewritePage 19 = .ok (.invokevirtual 85, 3) := by decide +kernel
theorem d_S_rewritePage_22 : decode b_S_rewritePage 22 = .ok (.iastore, 1) := by decide +kernel
theorem d_S_rewritePage_23 : decode b_S_rewritePage 23 = .ok (.iinc 3 1, 3) := by decide +kernel
theorem d_S_rewritePage_26 : decode b_S_rewritePage 26 = .ok (.goto (-24), 3) := by decide +kernel
theorem d_S_rewritePage_29 : decode b_S_rewritePage 29 = .ok (.aload_n 0, 1) := by decide +kernel
theorem d_S_rewritePage_30 : decode b_S_rewritePage 30 = .ok (.invokevirtual 89, 3) := by decide +kernel
theorem d_S_rewritePage_33 : decode b_S_rewritePage 33 = .ok (.aload_n 0, 1) := by decide +kernel
theorem d_S_rewritePage_34 : decode b_S_rewritePage 34 = .ok (.getfield 12, 3) := by decide +kernel
theorem d_S_rewritePage_37 : decode b_S_rewritePage 37 = .ok (.iload_n 2, 1) := by decide +kernel
theorem d_S_rewritePage_38 : decode b_S_rewritePage 38 = .ok (.aload_n 0, 1) := by decide +kernel
theorem d_S_rewritePage_39 : decode b_S_rewritePage 39 = .ok (.getfield 22, 3) := by decide +kernel
theorem d_S_rewritePage_42 : decode b_S_rewritePage 42 = .ok (.invokevirtual 92, 3) := by decide +kernel
theorem d_S_rewritePage_45 : decode b_S_rewritePage 45 = .ok (.ifCond .ne (5), 3) := by decide +kernel
theorem d_S_rewritePage_48 : decode b_S_rewritePage 48 = .ok (.iconst 0, 1) := by decide +kernel
theorem d_S_rewritePage_49 : decode b_S_rewritePage 49 = .ok (.ireturn, 1) := by decide +kernel
theorem d_S_rewritePage_50 : decode b_S_rewritePage 50 = .ok (.iconst 0, 1) := by decide +kernel
theorem d_S_rewritePage_51 : decode b_S_rewritePage 51 = .ok (.istore_n 3, 1) := by decide +kernel
theorem d_S_rewritePage_52 : decode b_S_rewritePage 52 = .ok (.iload_n 3, 1) := by decide +kernel
theorem d_S_rewritePage_53 : decode b_S_rewritePage 53 = .ok (.bipush 16, 2) := by decide +kernel
theorem d_S_rewritePage_55 : decode b_S_rewritePage 55 = .ok (.if_icmp .ge (26), 3) := by decide +kernel
theorem d_S_rewritePage_58 : decode b_S_rewritePage 58 = .ok (.aload_n 0, 1) := by decide +kernel
theorem d_S_rewritePage_59 : decode b_S_rewritePage 59 = .ok (.getfield 18, 3) := by decide +kernel
theorem d_S_rewritePage_62 : decode b_S_rewritePage 62 = .ok (.iload_n 3, 1) := by decide +kernel
theorem d_S_rewritePage_63 : decode b_S_rewritePage 63 = .ok (.iaload, 1) := by decide +kernel
theorem d_S_rewritePage_64 : decode b_S_rewritePage 64 = .ok (.iload_n 1, 1) := by decide +kernel
theorem d_S_rewritePage_65 : decode b_S_rewritePage 65 = .ok (.if_icmp .ne (10), 3) := by decide +kernel
theorem d_S_rewritePage_68 : decode b_S_rewritePage 68 = .ok (.aload_n 0, 1) := by decide +kernel
theorem d_S_rewritePage_69 : decode b_S_rewritePage 69 = .ok (.getfield 18, 3) := by decide +kernel
theorem d_S_rewritePage_72 : decode b_S_rewritePage 72 = .ok (.iload_n 3, 1) := by decide +kernel
theorem d_S_rewritePage_73 : decode b_S_rewritePage 73 = .ok (.iload_n 2, 1) := by decide +kernel
theorem d_S_rewritePage_74 : decode b_S_rewritePage 74 = .ok (.iastore, 1) := by decide +kernel
theorem d_S_rewritePage_75 : decode b_S_rewritePage 75 = .ok (.iinc 3 1, 3) := by decide +kernel
theorem d_S_rewritePage_78 : decode b_S_rewritePage 78 = .ok (.goto (-26), 3) := by decide +kernel
theorem d_S_rewritePage_81 : decode b_S_rewritePage 81 = .ok (.iconst 1, 1) := by decide +kernel
theorem d_S_rewritePage_82 : decode b_S_rewritePage 82 = .ok (.ireturn, 1) := by decide +kernel
theorem d_S_evacuate_0 : decode b_S_evacuate 0 = .ok (.iload_n 1, 1) := by decide +kernel
theorem d_S_evacuate_1 : decode b_S_evacuate 1 = .ok (.iconst (-1), 1) := by decide +kernel
theorem d_S_evacuate_2 : decode b_S_evacuate 2 = .ok (.if_icmp .ne (5), 3) := by decide +kernel
theorem d_S_evacuate_5 : decode b_S_evacuate 5 = .ok (.iconst 1, 1) := by decide +kernel
theorem d_S_evacuate_6 : decode b_S_evacuate 6 = .ok (.ireturn, 1) := by decide +kernel
theorem d_S_evacuate_7 : decode b_S_evacuate 7 = .ok (.aload_n 0, 1) := by decide +kernel
theorem d_S_evacuate_8 : decode b_S_evacuate 8 = .ok (.getfield 25, 3) := by decide +kernel
theorem d_S_evacuate_11 : decode b_S_evacuate 11 = .ok (.iconst 4, 1) := by decide +kernel
theorem d_S_evacuate_12 : decode b_S_evacuate 12 = .ok (.imul, 1) := by decide +kernel
theorem d_S_evacuate_13 : decode b_S_evacuate 13 = .ok (.istore_n 2, 1) := by decide +kernel
theorem d_S_evacuate_14 : decode b_S_evacuate 14 = .ok (.iload_n 1, 1) := by decide +kernel
theorem d_S_evacuate_15 : decode b_S_evacuate 15 = .ok (.iconst 4, 1) := by decide +kernel
theorem d_S_evacuate_16 : decode b_S_evacuate 16 = .ok (.imul, 1) := by decide +kernel
theorem d_S_evacuate_17 : decode b_S_evacuate 17 = .ok (.istore_n 3, 1) := by decide +kernel
theorem d_S_evacuate_18 : decode b_S_evacuate 18 = .ok (.iload_n 3, 1) := by decide +kernel
theorem d_S_evacuate_19 : decode b_S_evacuate 19 = .ok (.iload_n 1, 1) := by decide +kernel
theorem d_S_evacuate_20 : decode b_S_evacuate 20 = .ok (.iconst 1, 1) := by decide +kernel
theorem d_S_evacuate_21 : decode b_S_evacuate 21 = .ok (.iadd, 1) := by decide +kernel
theorem d_S_evacuate_22 : decode b_S_evacuate 22 = .ok (.iconst 4, 1) := by decide +kernel
theorem d_S_evacuate_23 : decode b_S_evacuate 23 = .ok (.imul, 1) := by decide +kernel
theorem d_S_evacuate_24 : decode b_S_evacuate 24 = .ok (.if_icmp .ge (32), 3) := by decide +kernel
theorem d_S_evacuate_27 : decode b_S_evacuate 27 = .ok (.aload_n 0, 1) := by decide +kernel
theorem d_S_evacuate_28 : decode b_S_evacuate 28 = .ok (.iload_n 3, 1) := by decide +kernel
theorem d_S_evacuate_29 : decode b_S_evacuate 29 = .ok (.invokevirtual 39, 3) := by decide +kernel
theorem d_S_evacuate_32 : decode b_S_evacuate 32 = .ok (.ifCond .eq (18), 3) := by decide +kernel
theorem d_S_evacuate_35 : decode b_S_evacuate 35 = .ok (.aload_n 0, 1) := by decide +kernel
theorem d_S_evacuate_36 : decode b_S_evacuate 36 = .ok (.iload_n 3, 1) := by decide +kernel
theorem d_S_evacuate_37 : decode b_S_evacuate 37 = .ok (.iload_n 2, 1) := by decide +kernel
theorem d_S_evacuate_38 : decode b_S_evacuate 38 = .ok (.invokevirtual 81, 3) := by decide +kernel
theorem d_S_evacuate_41 : decode b_S_evacuate 41 = .ok (.ifCond .ne (6), 3) := by decide +kernel
theorem d_S_evacuate_44 : decode b_S_evacuate 44 = .ok (.bipush (-2), 2) := by decide +kernel
theorem d_S_evacuate_46 : decode b_S_evacuate 46 = .ok (.ireturn, 1) := by decide +kernel
theorem d_S_evacuate_47 : decode b_S_evacuate 47 = .ok (.iinc 2 1, 3) := by decide +kernel
theorem d_S_evacuate_50 : decode b_S_evacuate 50 = .ok (.iinc 3 1, 3) := by decide +kernel
theorem d_S_evacuate_53 : decode b_S_evacuate 53 = .ok (.goto (-35), 3) := by decide +kernel
theorem d_S_evacuate_56 : decode b_S_evacuate 56 = .ok (.aload_n 0, 1) := by decide +kernel
theorem d_S_evacuate_57 : decode b_S_evacuate 57 = .ok (.getfield 12, 3) := by decide +kernel
theorem d_S_evacuate_60 : decode b_S_evacuate 60 = .ok (.iload_n 1, 1) := by decide +kernel
theorem d_S_evacuate_61 : decode b_S_evacuate 61 = .ok (.invokevirtual 78, 3) := by decide +kernel
theorem d_S_evacuate_64 : decode b_S_evacuate 64 = .ok (.ifCond .eq (7), 3) := by decide +kernel
theorem d_S_evacuate_67 : decode b_S_evacuate 67 = .ok (.iconst 1, 1) := by decide +kernel
theorem d_S_evacuate_68 : decode b_S_evacuate 68 = .ok (.goto (5), 3) := by decide +kernel
theorem d_S_evacuate_71 : decode b_S_evacuate 71 = .ok (.bipush (-2), 2) := by decide +kernel
theorem d_S_evacuate_73 : decode b_S_evacuate 73 = .ok (.ireturn, 1) := by decide +kernel
theorem d_S_pageForLeaf_0 : decode b_S_pageForLeaf 0 = .ok (.aload_n 0, 1) := by decide +kernel
theorem d_S_pageForLeaf_1 : decode b_S_pageForLeaf 1 = .ok (.getfield 35, 3) := by decide +kernel
theorem d_S_pageForLeaf_4 : decode b_S_pageForLeaf 4 = .ok (.ifCond .eq (5), 3) := by decide +kernel
theorem d_S_pageForLeaf_7 : decode b_S_pageForLeaf 7 = .ok (.iconst (-1), 1) := by decide +kernel
theorem d_S_pageForLeaf_8 : decode b_S_pageForLeaf 8 = .ok (.ireturn, 1) := by decide +kernel
theorem d_S_pageForLeaf_9 : decode b_S_pageForLeaf 9 = .ok (.aload_n 0, 1) := by decide +kernel
theorem d_S_pageForLeaf_10 : decode b_S_pageForLeaf 10 = .ok (.invokevirtual 43, 3) := by decide +kernel
theorem d_S_pageForLeaf_13 : decode b_S_pageForLeaf 13 = .ok (.istore_n 1, 1) := by decide +kernel
theorem d_S_pageForLeaf_14 : decode b_S_pageForLeaf 14 = .ok (.iload_n 1, 1) := by decide +kernel
theorem d_S_pageForLeaf_15 : decode b_S_pageForLeaf 15 = .ok (.iconst (-1), 1) := by decide +kernel
theorem d_S_pageForLeaf_16 : decode b_S_pageForLeaf 16 = .ok (.if_icmp .eq (5), 3) := by decide +kernel
theorem d_S_pageForLeaf_19 : decode b_S_pageForLeaf 19 = .ok (.iload_n 1, 1) := by decide +kernel
theorem d_S_pageForLeaf_20 : decode b_S_pageForLeaf 20 = .ok (.ireturn, 1) := by decide +kernel
theorem d_S_pageForLeaf_21 : decode b_S_pageForLeaf 21 = .ok (.aload_n 0, 1) := by decide +kernel
theorem d_S_pageForLeaf_22 : decode b_S_pageForLeaf 22 = .ok (.getfield 12, 3) := by decide +kernel
theorem d_S_pageForLeaf_25 : decode b_S_pageForLeaf 25 = .ok (.invokevirtual 47, 3) := by decide +kernel
theorem d_S_pageForLeaf_28 : decode b_S_pageForLeaf 28 = .ok (.istore_n 2, 1) := by decide +kernel
theorem d_S_pageForLeaf_29 : decode b_S_pageForLeaf 29 = .ok (.iload_n 2, 1) := by decide +kernel
theorem d_S_pageForLeaf_30 : decode b_S_pageForLeaf 30 = .ok (.ifCond .ne (15), 3) := by decide +kernel
theorem d_S_pageForLeaf_33 : decode b_S_pageForLeaf 33 = .ok (.aload_n 0, 1) := by decide +kernel
theorem d_S_pageForLeaf_34 : decode b_S_pageForLeaf 34 = .ok (.aload_n 0, 1) := by decide +kernel
theorem d_S_pageForLeaf_35 : decode b_S_pageForLeaf 35 = .ok (.invokevirtual 50, 3) := by decide +kernel
theorem d_S_pageForLeaf_38 : decode b_S_pageForLeaf 38 = .ok (.invokevirtual 53, 3) := by decide +kernel
theorem d_S_pageForLeaf_41 : decode b_S_pageForLeaf 41 = .ok (.istore_n 3, 1) := by decide +kernel
theorem d_S_pageForLeaf_42 : decode b_S_pageForLeaf 42 = .ok (.goto (32), 3) := by decide +kernel
theorem d_S_pageForLeaf_45 : decode b_S_pageForLeaf 45 = .ok (.aload_n 0, 1) := by decide +kernel
theorem d_S_pageForLeaf_46 : decode b_S_pageForLeaf 46 = .ok (.aload_n 0, 1) := by decide +kernel
theorem d_S_pageForLeaf_47 : decode b_S_pageForLeaf 47 = .ok (.getfield 12, 3) := by decide +kernel
theorem d_S_pageForLeaf_50 : decode b_S_pageForLeaf 50 = .ok (.invokevirtual 57, 3) := by decide +kernel
theorem d_S_pageForLeaf_53 : decode b_S_pageForLeaf 53 = .ok (.putfield 25, 3) := by decide +kernel
theorem d_S_pageForLeaf_56 : decode b_S_pageForLeaf 56 = .ok (.iload_n 2, 1) := by decide +kernel
theorem d_S_pageForLeaf_57 : decode b_S_pageForLeaf 57 = .ok (.iconst 1, 1) := by decide +kernel
theorem d_S_pageForLeaf_58 : decode b_S_pageForLeaf 58 = .ok (.if_icmp .ne (14), 3) := by decide +kernel
theorem d_S_pageForLeaf_61 : decode b_S_pageForLeaf 61 = .ok (.aload_n 0, 1) := by decide +kernel
theorem d_S_pageForLeaf_62 : decode b_S_pageForLeaf 62 = .ok (.aload_n 0, 1) := by decide +kernel
theorem d_S_pageForLeaf_63 : decode b_S_pageForLeaf 63 = .ok (.invokevirtual 50, 3) := by decide +kernel
theorem d_S_pageForLeaf_66 : decode b_S_pageForLeaf 66 = .ok (.invokevirtual 60, 3) := by decide +kernel
theorem d_S_pageForLeaf_69 : decode b_S_pageForLeaf 69 = .ok (.goto (4), 3) := by decide +kernel
theorem d_S_pageForLeaf_72 : decode b_S_pageForLeaf 72 = .ok (.iconst 1, 1) := by decide +kernel
theorem d_S_pageForLeaf_73 : decode b_S_pageForLeaf 73 = .ok (.istore_n 3, 1) := by decide +kernel
theorem d_S_pageForLeaf_74 : decode b_S_pageForLeaf 74 = .ok (.iload_n 3, 1) := by decide +kernel
theorem d_S_pageForLeaf_75 : decode b_S_pageForLeaf 75 = .ok (.iconst 1, 1) := by decide +kernel
theorem d_S_pageForLeaf_76 : decode b_S_pageForLeaf 76 = .ok (.if_icmp .ne (10), 3) := by decide +kernel
theorem d_S_pageForLeaf_79 : decode b_S_pageForLeaf 79 = .ok (.aload_n 0, 1) := by decide +kernel
theorem d_S_pageForLeaf_80 : decode b_S_pageForLeaf 80 = .ok (.invokevirtual 43, 3) := by decide +kernel
theorem d_S_pageForLeaf_83 : decode b_S_pageForLeaf 83 = .ok (.goto (4), 3) := by decide +kernel
theorem d_S_pageForLeaf_86 : decode b_S_pageForLeaf 86 = .ok (.iload_n 3, 1) := by decide +kernel
theorem d_S_pageForLeaf_87 : decode b_S_pageForLeaf 87 = .ok (.ireturn, 1) := by decide +kernel
theorem d_S_writeLastLeaf_0 : decode b_S_writeLastLeaf 0 = .ok (.aload_n 1, 1) := by decide +kernel
theorem d_S_writeLastLeaf_1 : decode b_S_writeLastLeaf 1 = .ok (.invokevirtual 96, 3) := by decide +kernel
theorem d_S_writeLastLeaf_4 : decode b_S_writeLastLeaf 4 = .ok (.iconst 1, 1) := by decide +kernel
theorem d_S_writeLastLeaf_5 : decode b_S_writeLastLeaf 5 = .ok (.isub, 1) := by decide +kernel
theorem d_S_writeLastLeaf_6 : decode b_S_writeLastLeaf 6 = .ok (.iconst 3, 1) := by decide +kernel
theorem d_S_writeLastLeaf_7 : decode b_S_writeLastLeaf 7 = .ok (.idiv, 1) := by decide +kernel
theorem d_S_writeLastLeaf_8 : decode b_S_writeLastLeaf 8 = .ok (.istore_n 3, 1) := by decide +kernel
theorem d_S_writeLastLeaf_9 : decode b_S_writeLastLeaf 9 = .ok (.aload_n 1, 1) := by decide +kernel
theorem d_S_writeLastLeaf_10 : decode b_S_writeLastLeaf 10 = .ok (.invokevirtual 96, 3) := by decide +kernel
theorem d_S_writeLastLeaf_13 : decode b_S_writeLastLeaf 13 = .ok (.iload_n 3, 1) := by decide +kernel
theorem d_S_writeLastLeaf_14 : decode b_S_writeLastLeaf 14 = .ok (.iconst 3, 1) := by decide +kernel
theorem d_S_writeLastLeaf_15 : decode b_S_writeLastLeaf 15 = .ok (.imul, 1) := by decide +kernel
theorem d_S_writeLastLeaf_16 : decode b_S_writeLastLeaf 16 = .ok (.isub, 1) := by decide +kernel
theorem d_S_writeLastLeaf_17 : decode b_S_writeLastLeaf 17 = .ok (.istore 4, 2) := by decide +kernel
theorem d_S_writeLastLeaf_19 : decode b_S_writeLastLeaf 19 = .ok (.aload_n 0, 1) := by decide +kernel
theorem d_S_writeLastLeaf_20 : decode b_S_writeLastLeaf 20 = .ok (.getfield 22, 3) := by decide +kernel
theorem d_S_writeLastLeaf_23 : decode b_S_writeLastLeaf 23 = .ok (.iconst 0, 1) := by decide +kernel
theorem d_S_writeLastLeaf_24 : decode b_S_writeLastLeaf 24 = .ok (.iconst 4, 1) := by decide +kernel
theorem d_S_writeLastLeaf_25 : decode b_S_writeLastLeaf 25 = .ok (.iload_n 3, 1) := by decide +kernel
theorem d_S_writeLastLeaf_26 : decode b_S_writeLastLeaf 26 = .ok (.imul, 1) := by decide +kernel
theorem d_S_writeLastLeaf_27 : decode b_S_writeLastLeaf 27 = .ok (.iload 4, 2) := by decide +kernel
theorem d_S_writeLastLeaf_29 : decode b_S_writeLastLeaf 29 = .ok (.iadd, 1) := by decide +kernel
theorem d_S_writeLastLeaf_30 : decode b_S_writeLastLeaf 30 = .ok (.iastore, 1) := by decide +kernel
theorem d_S_writeLastLeaf_31 : decode b_S_writeLastLeaf 31 = .ok (.iconst 2, 1) := by decide +kernel
theorem d_S_writeLastLeaf_32 : decode b_S_writeLastLeaf 32 = .ok (.istore 5, 2) := by decide +kernel
theorem d_S_writeLastLeaf_34 : decode b_S_writeLastLeaf 34 = .ok (.iload 5, 2) := by decide +kernel
theorem d_S_writeLastLeaf_36 : decode b_S_writeLastLeaf 36 = .ok (.bipush 14, 2) := by decide +kernel
theorem d_S_writeLastLeaf_38 : decode b_S_writeLastLeaf 38 = .ok (.if_icmp .ge (17), 3) := by decide +kernel
theorem d_S_writeLastLeaf_41 : decode b_S_writeLastLeaf 41 = .ok (.aload_n 0, 1) := by decide +kernel
theorem d_S_writeLastLeaf_42 : decode b_S_writeLastLeaf 42 = .ok (.getfield 22, 3) := by decide +kernel
theorem d_S_writeLastLeaf_45 : decode b_S_writeLastLeaf 45 = .ok (.iload 5, 2) := by decide +kernel
theorem d_S_writeLastLeaf_47 : decode b_S_writeLastLeaf 47 = .ok (.iconst 0, 1) := by decide +kernel
theorem d_S_writeLastLeaf_48 : decode b_S_writeLastLeaf 48 = .ok (.iastore, 1) := by decide +kernel
theorem d_S_writeLastLeaf_49 : decode b_S_writeLastLeaf 49 = .ok (.iinc 5 1, 3) := by decide +kernel
theorem d_S_writeLastLeaf_52 : decode b_S_writeLastLeaf 52 = .ok (.goto (-18), 3) := by decide +kernel
theorem d_S_writeLastLeaf_55 : decode b_S_writeLastLeaf 55 = .ok (.aload_n 1, 1) := by decide +kernel
theorem d_S_writeLastLeaf_56 : decode b_S_writeLastLeaf 56 = .ok (.iload_n 3, 1) := by decide +kernel
theorem d_S_writeLastLeaf_57 : decode b_S_writeLastLeaf 57 = .ok (.iconst 3, 1) := by decide +kernel
theorem d_S_writeLastLeaf_58 : decode b_S_writeLastLeaf 58 = .ok (.imul, 1) := by decide +kernel
theorem d_S_writeLastLeaf_59 : decode b_S_writeLastLeaf 59 = .ok (.iload 4, 2) := by decide +kernel
theorem d_S_writeLastLeaf_61 : decode b_S_writeLastLeaf 61 = .ok (.aload_n 0, 1) := by decide +kernel
theorem d_S_writeLastLeaf_62 : decode b_S_writeLastLeaf 62 = .ok (.getfield 22, 3) := by decide +kernel
theorem d_S_writeLastLeaf_65 : decode b_S_writeLastLeaf 65 = .ok (.iconst 2, 1) := by decide +kernel
theorem d_S_writeLastLeaf_66 : decode b_S_writeLastLeaf 66 = .ok (.invokevirtual 101, 3) := by decide +kernel
theorem d_S_writeLastLeaf_69 : decode b_S_writeLastLeaf 69 = .ok (.aload_n 0, 1) := by decide +kernel
theorem d_S_writeLastLeaf_70 : decode b_S_writeLastLeaf 70 = .ok (.invokevirtual 89, 3) := by decide +kernel
theorem d_S_writeLastLeaf_73 : decode b_S_writeLastLeaf 73 = .ok (.aload_n 0, 1) := by decide +kernel
theorem d_S_writeLastLeaf_74 : decode b_S_writeLastLeaf 74 = .ok (.getfield 12, 3) := by decide +kernel
theorem d_S_writeLastLeaf_77 : decode b_S_writeLastLeaf 77 = .ok (.iload_n 2, 1) := by decide +kernel
theorem d_S_writeLastLeaf_78 : decode b_S_writeLastLeaf 78 = .ok (.aload_n 0, 1) := by decide +kernel
theorem d_S_writeLastLeaf_79 : decode b_S_writeLastLeaf 79 = .ok (.getfield 22, 3) := by decide +kernel
theorem d_S_writeLastLeaf_82 : decode b_S_writeLastLeaf 82 = .ok (.invokevirtual 92, 3) := by decide +kernel
theorem d_S_writeLastLeaf_85 : decode b_S_writeLastLeaf 85 = .ok (.ifCond .ne (6), 3) := by decide +kernel
theorem d_S_writeLastLeaf_88 : decode b_S_writeLastLeaf 88 = .ok (.bipush (-2), 2) := by decide +kernel
theorem d_S_writeLastLeaf_90 : decode b_S_writeLastLeaf 90 = .ok (.ireturn, 1) := by decide +kernel
theorem d_S_writeLastLeaf_91 : decode b_S_writeLastLeaf 91 = .ok (.aload_n 0, 1) := by decide +kernel
theorem d_S_writeLastLeaf_92 : decode b_S_writeLastLeaf 92 = .ok (.getfield 18, 3) := by decide +kernel
theorem d_S_writeLastLeaf_95 : decode b_S_writeLastLeaf 95 = .ok (.iload_n 3, 1) := by decide +kernel
theorem d_S_writeLastLeaf_96 : decode b_S_writeLastLeaf 96 = .ok (.iload_n 2, 1) := by decide +kernel
theorem d_S_writeLastLeaf_97 : decode b_S_writeLastLeaf 97 = .ok (.iastore, 1) := by decide +kernel
theorem d_S_writeLastLeaf_98 : decode b_S_writeLastLeaf 98 = .ok (.aload_n 0, 1) := by decide +kernel
theorem d_S_writeLastLeaf_99 : decode b_S_writeLastLeaf 99 = .ok (.aload_n 1, 1) := by decide +kernel
theorem d_S_writeLastLeaf_100 : decode b_S_writeLastLeaf 100 = .ok (.invokevirtual 96, 3) := by decide +kernel
theorem d_S_writeLastLeaf_103 : decode b_S_writeLastLeaf 103 = .ok (.putfield 32, 3) := by decide +kernel
theorem d_S_writeLastLeaf_106 : decode b_S_writeLastLeaf 106 = .ok (.iconst 1, 1) := by decide +kernel
theorem d_S_writeLastLeaf_107 : decode b_S_writeLastLeaf 107 = .ok (.ireturn, 1) := by decide +kernel
theorem d_S_newerOf_0 : decode b_S_newerOf 0 = .ok (.iload_n 1, 1) := by decide +kernel
theorem d_S_newerOf_1 : decode b_S_newerOf 1 = .ok (.iconst (-1), 1) := by decide +kernel
theorem d_S_newerOf_2 : decode b_S_newerOf 2 = .ok (.if_icmp .eq (24), 3) := by decide +kernel
theorem d_S_newerOf_5 : decode b_S_newerOf 5 = .ok (.aload_n 0, 1) := by decide +kernel
theorem d_S_newerOf_6 : decode b_S_newerOf 6 = .ok (.getfield 12, 3) := by decide +kernel
theorem d_S_newerOf_9 : decode b_S_newerOf 9 = .ok (.iload_n 2, 1) := by decide +kernel
theorem d_S_newerOf_10 : decode b_S_newerOf 10 = .ok (.iconst 1, 1) := by decide +kernel
theorem d_S_newerOf_11 : decode b_S_newerOf 11 = .ok (.invokevirtual 85, 3) := by decide +kernel
theorem d_S_newerOf_14 : decode b_S_newerOf 14 = .ok (.aload_n 0, 1) := by decide +kernel
theorem d_S_newerOf_15 : decode b_S_newerOf 15 = .ok (.getfield 12, 3) := by decide +kernel
theorem d_S_newerOf_18 : decode b_S_newerOf 18 = .ok (.iload_n 1, 1) := by decide +kernel
theorem d_S_newerOf_19 : decode b_S_newerOf 19 = .ok (.iconst 1, 1) := by decide +kernel
theorem d_S_newerOf_20 : decode b_S_newerOf 20 = .ok (.invokevirtual 85, 3) := by decide +kernel
theorem d_S_newerOf_23 : decode b_S_newerOf 23 = .ok (.if_icmp .le (7), 3) := by decide +kernel
theorem d_S_newerOf_26 : decode b_S_newerOf 26 = .ok (.iconst 1, 1) := by decide +kernel
theorem d_S_newerOf_27 : decode b_S_newerOf 27 = .ok (.goto (4), 3) := by decide +kernel
theorem d_S_newerOf_30 : decode b_S_newerOf 30 = .ok (.iconst 0, 1) := by decide +kernel
theorem d_S_newerOf_31 : decode b_S_newerOf 31 = .ok (.istore_n 3, 1) := by decide +kernel
theorem d_S_newerOf_32 : decode b_S_newerOf 32 = .ok (.iload_n 3, 1) := by decide +kernel
theorem d_S_newerOf_33 : decode b_S_newerOf 33 = .ok (.ifCond .eq (7), 3) := by decide +kernel
theorem d_S_newerOf_36 : decode b_S_newerOf 36 = .ok (.iload_n 2, 1) := by decide +kernel
theorem d_S_newerOf_37 : decode b_S_newerOf 37 = .ok (.goto (4), 3) := by decide +kernel
theorem d_S_newerOf_40 : decode b_S_newerOf 40 = .ok (.iload_n 1, 1) := by decide +kernel
theorem d_S_newerOf_41 : decode b_S_newerOf 41 = .ok (.ireturn, 1) := by decide +kernel
theorem d_S_findNewestPages_0 : decode b_S_findNewestPages 0 = .ok (.iconst 0, 1) := by decide +kernel
theorem d_S_findNewestPages_1 : decode b_S_findNewestPages 1 = .ok (.istore_n 1, 1) := by decide +kernel
theorem d_S_findNewestPages_2 : decode b_S_findNewestPages 2 = .ok (.iload_n 1, 1) := by decide +kernel
theorem d_S_findNewestPages_3 : decode b_S_findNewestPages 3 = .ok (.bipush 16, 2) := by decide +kernel
theorem d_S_findNewestPages_5 : decode b_S_findNewestPages 5 = .ok (.if_icmp .ge (16), 3) := by decide +kernel
theorem d_S_findNewestPages_8 : decode b_S_findNewestPages 8 = .ok (.aload_n 0, 1) := by decide +kernel
theorem d_S_findNewestPages_9 : decode b_S_findNewestPages 9 = .ok (.getfield 18, 3) := by decide +kernel
theorem d_S_findNewestPages_12 : decode b_S_findNewestPages 12 = .ok (.iload_n 1, 1) := by decide +kernel
theorem d_S_findNewestPages_13 : decode b_S_findNewestPages 13 = .ok (.iconst (-1), 1) := by decide +kernel
theorem d_S_findNewestPages_14 : decode b_S_findNewestPages 14 = .ok (.iastore, 1) := by decide +kernel
theorem d_S_findNewestPages_15 : decode b_S_findNewestPages 15 = .ok (.iinc 1 1, 3) := by decide +kernel
theorem d_S_findNewestPages_18 : decode b_S_findNewestPages 18 = .ok (.goto (-16), 3) := by decide +kernel
theorem d_S_findNewestPages_21 : decode b_S_findNewestPages 21 = .ok (.iconst (-1), 1) := by decide +kernel
theorem d_S_findNewestPages_22 : decode b_S_findNewestPages 22 = .ok (.istore_n 1, 1) := by decide +kernel
theorem d_S_findNewestPages_23 : decode b_S_findNewestPages 23 = .ok (.iconst 0, 1) := by decide +kernel
theorem d_S_findNewestPages_24 : decode b_S_findNewestPages 24 = .ok (.istore_n 2, 1) := by decide +kernel
theorem d_S_findNewestPages_25 : decode b_S_findNewestPages 25 = .ok (.iload_n 2, 1) := by decide +kernel
theorem d_S_findNewestPages_26 : decode b_S_findNewestPages 26 = .ok (.bipush 32, 2) := by decide +kernel
theorem d_S_findNewestPages_28 : decode b_S_findNewestPages 28 = .ok (.if_icmp .ge (56), 3) := by decide +kernel
theorem d_S_findNewestPages_31 : decode b_S_findNewestPages 31 = .ok (.aload_n 0, 1) := by decide +kernel
theorem d_S_findNewestPages_32 : decode b_S_findNewestPages 32 = .ok (.getfield 12, 3) := by decide +kernel
theorem d_S_findNewestPages_35 : decode b_S_findNewestPages 35 = .ok (.iload_n 2, 1) := by decide +kernel
theorem d_S_findNewestPages_36 : decode b_S_findNewestPages 36 = .ok (.invokevirtual 120, 3) := by decide +kernel
theorem d_S_findNewestPages_39 : decode b_S_findNewestPages 39 = .ok (.ifCond .eq (39), 3) := by decide +kernel
theorem d_S_findNewestPages_42 : decode b_S_findNewestPages 42 = .ok (.aload_n 0, 1) := by decide +kernel
theorem d_S_findNewestPages_43 : decode b_S_findNewestPages 43 = .ok (.getfield 12, 3) := by decide +kernel
theorem d_S_findNewestPages_46 : decode b_S_findNewestPages 46 = .ok (.iload_n 2, 1) := by decide +kernel
theorem d_S_findNewestPages_47 : decode b_S_findNewestPages 47 = .ok (.iconst 0, 1) := by decide +kernel
theorem d_S_findNewestPages_48 : decode b_S_findNewestPages 48 = .ok (.invokevirtual 85, 3) := by decide +kernel
theorem d_S_findNewestPages_51 : decode b_S_findNewestPages 51 = .ok (.iconst 4, 1) := by decide +kernel
theorem d_S_findNewestPages_52 : decode b_S_findNewestPages 52 = .ok (.idiv, 1) := by decide +kernel
theorem d_S_findNewestPages_53 : decode b_S_findNewestPages 53 = .ok (.istore_n 3, 1) := by decide +kernel
theorem d_S_findNewestPages_54 : decode b_S_findNewestPages 54 = .ok (.aload_n 0, 1) := by decide +kernel
theorem d_S_findNewestPages_55 : decode b_S_findNewestPages 55 = .ok (.getfield 18, 3) := by decide +kernel
theorem d_S_findNewestPages_58 : decode b_S_findNewestPages 58 = .ok (.iload_n 3, 1) := by decide +kernel
theorem d_S_findNewestPages_59 : decode b_S_findNewestPages 59 = .ok (.aload_n 0, 1) := by decide +kernel
theorem d_S_findNewestPages_60 : decode b_S_findNewestPages 60 = .ok (.aload_n 0, 1) := by decide +kernel
theorem d_S_findNewestPages_61 : decode b_S_findNewestPages 61 = .ok (.getfield 18, 3) := by decide +kernel
theorem d_S_findNewestPages_64 : decode b_S_findNewestPages 64 = .ok (.iload_n 3, 1) := by decide +kernel
theorem d_S_findNewestPages_65 : decode b_S_findNewestPages 65 = .ok (.iaload, 1) := by decide +kernel
theorem d_S_findNewestPages_66 : decode b_S_findNewestPages 66 = .ok (.iload_n 2, 1) := by decide +kernel
theorem d_S_findNewestPages_67 : decode b_S_findNewestPages 67 = .ok (.invokevirtual 123, 3) := by decide +kernel
theorem d_S_findNewestPages_70 : decode b_S_findNewestPages 70 = .ok (.iastore, 1) := by decide +kernel
theorem d_S_findNewestPages_71 : decode b_S_findNewestPages 71 = .ok (.aload_n 0, 1) := by decide +kernel
theorem d_S_findNewestPages_72 : decode b_S_findNewestPages 72 = .ok (.iload_n 1, 1) := by decide +kernel
theorem d_S_findNewestPages_73 : decode b_S_findNewestPages 73 = .ok (.iload_n 2, 1) := by decide +kernel
theorem d_S_findNewestPages_74 : decode b_S_findNewestPages 74 = .ok (.invokevirtual 123, 3) := by decide +kernel
theorem d_S_findNewestPages_77 : decode b_S_findNewestPages 77 = .ok (.istore_n 1, 1) := by decide +kernel
theorem d_S_findNewestPages_78 : decode b_S_findNewestPages 78 = .ok (.iinc 2 1, 3) := by decide +kernel
theorem d_S_findNewestPages_81 : decode b_S_findNewestPages 81 = .ok (.goto (-56), 3) := by decide +kernel
theorem d_S_findNewestPages_84 : decode b_S_findNewestPages 84 = .ok (.iload_n 1, 1) := by decide +kernel
theorem d_S_findNewestPages_85 : decode b_S_findNewestPages 85 = .ok (.ireturn, 1) := by decide +kernel
theorem d_S_readLeaf_0 : decode b_S_readLeaf 0 = .ok (.aload_n 0, 1) := by decide +kernel
theorem d_S_readLeaf_1 : decode b_S_readLeaf 1 = .ok (.getfield 12, 3) := by decide +kernel
theorem d_S_readLeaf_4 : decode b_S_readLeaf 4 = .ok (.iload_n 2, 1) := by decide +kernel
theorem d_S_readLeaf_5 : decode b_S_readLeaf 5 = .ok (.iconst 0, 1) := by decide +kernel
theorem d_S_readLeaf_6 : decode b_S_readLeaf 6 = .ok (.invokevirtual 85, 3) := by decide +kernel
theorem d_S_readLeaf_9 : decode b_S_readLeaf 9 = .ok (.iconst 4, 1) := by decide +kernel
theorem d_S_readLeaf_10 : decode b_S_readLeaf 10 = .ok (.irem, 1) := by decide +kernel
theorem d_S_readLeaf_11 : decode b_S_readLeaf 11 = .ok (.istore_n 3, 1) := by decide +kernel
theorem d_S_readLeaf_12 : decode b_S_readLeaf 12 = .ok (.iconst 0, 1) := by decide +kernel
theorem d_S_readLeaf_13 : decode b_S_readLeaf 13 = .ok (.istore 4, 2) := by decide +kernel
theorem d_S_readLeaf_15 : decode b_S_readLeaf 15 = .ok (.iload 4, 2) := by decide +kernel
theorem d_S_readLeaf_17 : decode b_S_readLeaf 17 = .ok (.iload_n 3, 1) := by decide +kernel
theorem d_S_readLeaf_18 : decode b_S_readLeaf 18 = .ok (.if_icmp .ge (67), 3) := by decide +kernel
theorem d_S_readLeaf_21 : decode b_S_readLeaf 21 = .ok (.iconst 2, 1) := by decide +kernel
theorem d_S_readLeaf_22 : decode b_S_readLeaf 22 = .ok (.iload 4, 2) := by decide +kernel
theorem d_S_readLeaf_24 : decode b_S_readLeaf 24 = .ok (.iconst 4, 1) := by decide +kernel
theorem d_S_readLeaf_25 : decode b_S_readLeaf 25 = .ok (.imul, 1) := by decide +kernel
theorem d_S_readLeaf_26 : decode b_S_readLeaf 26 = .ok (.iadd, 1) := by decide +kernel
theorem d_S_readLeaf_27 : decode b_S_readLeaf 27 = .ok (.istore 5, 2) := by decide +kernel
theorem d_S_readLeaf_29 : decode b_S_readLeaf 29 = .ok (.aload_n 1, 1) := by decide +kernel
theorem d_S_readLeaf_30 : decode b_S_readLeaf 30 = .ok (.aload_n 0, 1) := by decide +kernel
theorem d_S_readLeaf_31 : decode b_S_readLeaf 31 = .ok (.getfield 12, 3) := by decide +kernel
theorem d_S_readLeaf_34 : decode b_S_readLeaf 34 = .ok (.iload_n 2, 1) := by decide +kernel
theorem d_S_readLeaf_35 : decode b_S_readLeaf 35 = .ok (.iload 5, 2) := by decide +kernel
theorem d_S_readLeaf_37 : decode b_S_readLeaf 37 = .ok (.invokevirtual 85, 3) := by decide +kernel
theorem d_S_readLeaf_40 : decode b_S_readLeaf 40 = .ok (.aload_n 0, 1) := by decide +kernel
theorem d_S_readLeaf_41 : decode b_S_readLeaf 41 = .ok (.getfield 12, 3) := by decide +kernel
theorem d_S_readLeaf_44 : decode b_S_readLeaf 44 = .ok (.iload_n 2, 1) := by decide +kernel
theorem d_S_readLeaf_45 : decode b_S_readLeaf 45 = .ok (.iload 5, 2) := by decide +kernel
theorem d_S_readLeaf_47 : decode b_S_readLeaf 47 = .ok (.iconst 1, 1) := by decide +kernel
theorem d_S_readLeaf_48 : decode b_S_readLeaf 48 = .ok (.iadd, 1) := by decide +kernel
theorem d_S_readLeaf_49 : decode b_S_readLeaf 49 = .ok (.invokevirtual 85, 3) := by decide +kernel
theorem d_S_readLeaf_52 : decode b_S_readLeaf 52 = .ok (.aload_n 0, 1) := by decide +kernel
theorem d_S_readLeaf_53 : decode b_S_readLeaf 53 = .ok (.getfield 12, 3) := by decide +kernel
theorem d_S_readLeaf_56 : decode b_S_readLeaf 56 = .ok (.iload_n 2, 1) := by decide +kernel
theorem d_S_readLeaf_57 : decode b_S_readLeaf 57 = .ok (.iload 5, 2) := by decide +kernel
theorem d_S_readLeaf_59 : decode b_S_readLeaf 59 = .ok (.iconst 2, 1) := by decide +kernel
theorem d_S_readLeaf_60 : decode b_S_readLeaf 60 = .ok (.iadd, 1) := by decide +kernel
theorem d_S_readLeaf_61 : decode b_S_readLeaf 61 = .ok (.invokevirtual 85, 3) := by decide +kernel
theorem d_S_readLeaf_64 : decode b_S_readLeaf 64 = .ok (.aload_n 0, 1) := by decide +kernel
theorem d_S_readLeaf_65 : decode b_S_readLeaf 65 = .ok (.getfield 12, 3) := by decide +kernel
theorem d_S_readLeaf_68 : decode b_S_readLeaf 68 = .ok (.iload_n 2, 1) := by decide +kernel
theorem d_S_readLeaf_69 : decode b_S_readLeaf 69 = .ok (.iload 5, 2) := by decide +kernel
theorem d_S_readLeaf_71 : decode b_S_readLeaf 71 = .ok (.iconst 3, 1) := by decide +kernel
theorem d_S_readLeaf_72 : decode b_S_readLeaf 72 = .ok (.iadd, 1) := by decide +kernel
theorem d_S_readLeaf_73 : decode b_S_readLeaf 73 = .ok (.invokevirtual 85, 3) := by decide +kernel
theorem d_S_readLeaf_76 : decode b_S_readLeaf 76 = .ok (.invokevirtual 126, 3) := by decide +kernel
theorem d_S_readLeaf_79 : decode b_S_readLeaf 79 = .ok (.iinc 4 1, 3) := by decide +kernel
theorem d_S_readLeaf_82 : decode b_S_readLeaf 82 = .ok (.goto (-67), 3) := by decide +kernel
theorem d_S_readLeaf_85 : decode b_S_readLeaf 85 = .ok (.iload_n 3, 1) := by decide +kernel
theorem d_S_readLeaf_86 : decode b_S_readLeaf 86 = .ok (.ireturn, 1) := by decide +kernel
theorem d_S_restore_0 : decode b_S_restore 0 = .ok (.aload_n 0, 1) := by decide +kernel
theorem d_S_restore_1 : decode b_S_restore 1 = .ok (.invokevirtual 110, 3) := by decide +kernel
theorem d_S_restore_4 : decode b_S_restore 4 = .ok (.istore_n 2, 1) := by decide +kernel
theorem d_S_restore_5 : decode b_S_restore 5 = .ok (.aload_n 0, 1) := by decide +kernel
theorem d_S_restore_6 : decode b_S_restore 6 = .ok (.iload_n 2, 1) := by decide +kernel
theorem d_S_restore_7 : decode b_S_restore 7 = .ok (.iconst (-1), 1) := by decide +kernel
theorem d_S_restore_8 : decode b_S_restore 8 = .ok (.if_icmp .ne (7), 3) := by decide +kernel
theorem d_S_restore_11 : decode b_S_restore 11 = .ok (.iconst (-1), 1) := by decide +kernel
theorem d_S_restore_12 : decode b_S_restore 12 = .ok (.goto (6), 3) := by decide +kernel
theorem d_S_restore_15 : decode b_S_restore 15 = .ok (.iload_n 2, 1) := by decide +kernel
theorem d_S_restore_16 : decode b_S_restore 16 = .ok (.iconst 4, 1) := by decide +kernel
theorem d_S_restore_17 : decode b_S_restore 17 = .ok (.idiv, 1) := by decide +kernel
theorem d_S_restore_18 : decode b_S_restore 18 = .ok (.putfield 25, 3) := by decide +kernel
theorem d_S_restore_21 : decode b_S_restore 21 = .ok (.aload_n 0, 1) := by decide +kernel
theorem d_S_restore_22 : decode b_S_restore 22 = .ok (.iload_n 2, 1) := by decide +kernel
theorem d_S_restore_23 : decode b_S_restore 23 = .ok (.iconst (-1), 1) := by decide +kernel
theorem d_S_restore_24 : decode b_S_restore 24 = .ok (.if_icmp .ne (7), 3) := by decide +kernel
theorem d_S_restore_27 : decode b_S_restore 27 = .ok (.iconst 0, 1) := by decide +kernel
theorem d_S_restore_28 : decode b_S_restore 28 = .ok (.goto (12), 3) := by decide +kernel
theorem d_S_restore_31 : decode b_S_restore 31 = .ok (.aload_n 0, 1) := by decide +kernel
theorem d_S_restore_32 : decode b_S_restore 32 = .ok (.getfield 12, 3) := by decide +kernel
theorem d_S_restore_35 : decode b_S_restore 35 = .ok (.iload_n 2, 1) := by decide +kernel
theorem d_S_restore_36 : decode b_S_restore 36 = .ok (.iconst 1, 1) := by decide +kernel
theorem d_S_restore_37 : decode b_S_restore 37 = .ok (.invokevirtual 85, 3) := by decide +kernel
theorem d_S_restore_40 : decode b_S_restore 40 = .ok (.putfield 29, 3) := by decide +kernel
theorem d_S_restore_43 : decode b_S_restore 43 = .ok (.aload_n 0, 1) := by decide +kernel
theorem d_S_restore_44 : decode b_S_restore 44 = .ok (.iconst 0, 1) := by decide +kernel
theorem d_S_restore_45 : decode b_S_restore 45 = .ok (.putfield 35, 3) := by decide +kernel
theorem d_S_restore_48 : decode b_S_restore 48 = .ok (.aload_n 1, 1) := by decide +kernel
theorem d_S_restore_49 : decode b_S_restore 49 = .ok (.invokevirtual 113, 3) := by decide +kernel
theorem d_S_restore_52 : decode b_S_restore 52 = .ok (.iconst 1, 1) := by decide +kernel
theorem d_S_restore_53 : decode b_S_restore 53 = .ok (.istore_n 3, 1) := by decide +kernel
theorem d_S_restore_54 : decode b_S_restore 54 = .ok (.iconst 0, 1) := by decide +kernel
theorem d_S_restore_55 : decode b_S_restore 55 = .ok (.istore 4, 2) := by decide +kernel
theorem d_S_restore_57 : decode b_S_restore 57 = .ok (.iload 4, 2) := by decide +kernel
theorem d_S_restore_59 : decode b_S_restore 59 = .ok (.bipush 16, 2) := by decide +kernel
theorem d_S_restore_61 : decode b_S_restore 61 = .ok (.if_icmp .ge (67), 3) := by decide +kernel
theorem d_S_restore_64 : decode b_S_restore 64 = .ok (.iload_n 3, 1) := by decide +kernel
theorem d_S_restore_65 : decode b_S_restore 65 = .ok (.ifCond .eq (18), 3) := by decide +kernel
theorem d_S_restore_68 : decode b_S_restore 68 = .ok (.aload_n 0, 1) := by decide +kernel
theorem d_S_restore_69 : decode b_S_restore 69 = .ok (.getfield 18, 3) := by decide +kernel
theorem d_S_restore_72 : decode b_S_restore 72 = .ok (.iload 4, 2) := by decide +kernel
theorem d_S_restore_74 : decode b_S_restore 74 = .ok (.iaload, 1) := by decide +kernel
theorem d_S_restore_75 : decode b_S_restore 75 = .ok (.iconst (-1), 1) := by decide +kernel
theorem d_S_restore_76 : decode b_S_restore 76 = .ok (.if_icmp .eq (7), 3) := by decide +kernel
theorem d_S_restore_79 : decode b_S_restore 79 = .ok (.iconst 1, 1) := by decide +kernel
theorem d_S_restore_80 : decode b_S_restore 80 = .ok (.goto (4), 3) := by decide +kernel
theorem d_S_restore_83 : decode b_S_restore 83 = .ok (.iconst 0, 1) := by decide +kernel
theorem d_S_restore_84 : decode b_S_restore 84 = .ok (.istore_n 3, 1) := by decide +kernel
theorem d_S_restore_85 : decode b_S_restore 85 = .ok (.iload_n 3, 1) := by decide +kernel
theorem d_S_restore_86 : decode b_S_restore 86 = .ok (.ifCond .eq (28), 3) := by decide +kernel
theorem d_S_restore_89 : decode b_S_restore 89 = .ok (.aload_n 0, 1) := by decide +kernel
theorem d_S_restore_90 : decode b_S_restore 90 = .ok (.aload_n 1, 1) := by decide +kernel
theorem d_S_restore_91 : decode b_S_restore 91 = .ok (.aload_n 0, 1) := by decide +kernel
theorem d_S_restore_92 : decode b_S_restore 92 = .ok (.getfield 18, 3) := by decide +kernel
theorem d_S_restore_95 : decode b_S_restore 95 = .ok (.iload 4, 2) := by decide +kernel
theorem d_S_restore_97 : decode b_S_restore 97 = .ok (.iaload, 1) := by decide +kernel
theorem d_S_restore_98 : decode b_S_restore 98 = .ok (.invokevirtual 116, 3) := by decide +kernel
theorem d_S_restore_101 : decode b_S_restore 101 = .ok (.iconst 3, 1) := by decide +kernel
theorem d_S_restore_102 : decode b_S_restore 102 = .ok (.if_icmp .ne (7), 3) := by decide +kernel
theorem d_S_restore_105 : decode b_S_restore 105 = .ok (.iconst 1, 1) := by decide +kernel
theorem d_S_restore_106 : decode b_S_restore 106 = .ok (.goto (4), 3) := by decide +kernel
theorem d_S_restore_109 : decode b_S_restore 109 = .ok (.iconst 0, 1) := by decide +kernel
theorem d_S_restore_110 : decode b_S_restore 110 = .ok (.istore_n 3, 1) := by decide +kernel
theorem d_S_restore_111 : decode b_S_restore 111 = .ok (.goto (11), 3) := by decide +kernel
theorem d_S_restore_114 : decode b_S_restore 114 = .ok (.aload_n 0, 1) := by decide +kernel
theorem d_S_restore_115 : decode b_S_restore 115 = .ok (.getfield 18, 3) := by decide +kernel
theorem d_S_restore_118 : decode b_S_restore 118 = .ok (.iload 4, 2) := by decide +kernel
theorem d_S_restore_120 : decode b_S_restore 120 = .ok (.iconst (-1), 1) := by decide +kernel
theorem d_S_restore_121 : decode b_S_restore 121 = .ok (.iastore, 1) := by decide +kernel
theorem d_S_restore_122 : decode b_S_restore 122 = .ok (.iinc 4 1, 3) := by decide +kernel
theorem d_S_restore_125 : decode b_S_restore 125 = .ok (.goto (-68), 3) := by decide +kernel
theorem d_S_restore_128 : decode b_S_restore 128 = .ok (.aload_n 0, 1) := by decide +kernel
theorem d_S_restore_129 : decode b_S_restore 129 = .ok (.aload_n 1, 1) := by decide +kernel
theorem d_S_restore_130 : decode b_S_restore 130 = .ok (.invokevirtual 96, 3) := by decide +kernel
theorem d_S_restore_133 : decode b_S_restore 133 = .ok (.putfield 32, 3) := by decide +kernel
theorem d_S_restore_136 : decode b_S_restore 136 = .ok (.return_, 1) := by decide +kernel
theorem d_S_sumBefore_0 : decode b_S_sumBefore 0 = .ok (.iload_n 1, 1) := by decide +kernel
theorem d_S_sumBefore_1 : decode b_S_sumBefore 1 = .ok (.ifCond .ne (7), 3) := by decide +kernel
theorem d_S_sumBefore_4 : decode b_S_sumBefore 4 = .ok (.sipush 7989, 3) := by decide +kernel
theorem d_S_sumBefore_7 : decode b_S_sumBefore 7 = .ok (.ireturn, 1) := by decide +kernel
theorem d_S_sumBefore_8 : decode b_S_sumBefore 8 = .ok (.aload_n 0, 1) := by decide +kernel
theorem d_S_sumBefore_9 : decode b_S_sumBefore 9 = .ok (.getfield 18, 3) := by decide +kernel
theorem d_S_sumBefore_12 : decode b_S_sumBefore 12 = .ok (.iload_n 1, 1) := by decide +kernel
theorem d_S_sumBefore_13 : decode b_S_sumBefore 13 = .ok (.iconst 1, 1) := by decide +kernel
theorem d_S_sumBefore_14 : decode b_S_sumBefore 14 = .ok (.isub, 1) := by decide +kernel
theorem d_S_sumBefore_15 : decode b_S_sumBefore 15 = .ok (.iconst 3, 1) := by decide +kernel
theorem d_S_sumBefore_16 : decode b_S_sumBefore 16 = .ok (.idiv, 1) := by decide +kernel
theorem d_S_sumBefore_17 : decode b_S_sumBefore 17 = .ok (.iaload, 1) := by decide +kernel
theorem d_S_sumBefore_18 : decode b_S_sumBefore 18 = .ok (.istore_n 2, 1) := by decide +kernel
theorem d_S_sumBefore_19 : decode b_S_sumBefore 19 = .ok (.iload_n 2, 1) := by decide +kernel
theorem d_S_sumBefore_20 : decode b_S_sumBefore 20 = .ok (.iconst (-1), 1) := by decide +kernel
theorem d_S_sumBefore_21 : decode b_S_sumBefore 21 = .ok (.if_icmp .ne (9), 3) := by decide +kernel
theorem d_S_sumBefore_24 : decode b_S_sumBefore 24 = .ok (.sipush 7989, 3) := by decide +kernel
theorem d_S_sumBefore_27 : decode b_S_sumBefore 27 = .ok (.goto (16), 3) := by decide +kernel
theorem d_S_sumBefore_30 : decode b_S_sumBefore 30 = .ok (.aload_n 0, 1) := by decide +kernel
theorem d_S_sumBefore_31 : decode b_S_sumBefore 31 = .ok (.getfield 12, 3) := by decide +kernel
theorem d_S_sumBefore_34 : decode b_S_sumBefore 34 = .ok (.iload_n 2, 1) := by decide +kernel
theorem d_S_sumBefore_35 : decode b_S_sumBefore 35 = .ok (.iload_n 1, 1) := by decide +kernel
theorem d_S_sumBefore_36 : decode b_S_sumBefore 36 = .ok (.iconst 1, 1) := by decide +kernel
theorem d_S_sumBefore_37 : decode b_S_sumBefore 37 = .ok (.isub, 1) := by decide +kernel
theorem d_S_sumBefore_38 : decode b_S_sumBefore 38 = .ok (.iconst 3, 1) := by decide +kernel
theorem d_S_sumBefore_39 : decode b_S_sumBefore 39 = .ok (.irem, 1) := by decide +kernel
theorem d_S_sumBefore_40 : decode b_S_sumBefore 40 = .ok (.invokevirtual 136, 3) := by decide +kernel
theorem d_S_sumBefore_43 : decode b_S_sumBefore 43 = .ok (.ireturn, 1) := by decide +kernel
theorem d_S_failsAt_0 : decode b_S_failsAt 0 = .ok (.iload_n 1, 1) := by decide +kernel
theorem d_S_failsAt_1 : decode b_S_failsAt 1 = .ok (.aload_n 0, 1) := by decide +kernel
theorem d_S_failsAt_2 : decode b_S_failsAt 2 = .ok (.getfield 32, 3) := by decide +kernel
theorem d_S_failsAt_5 : decode b_S_failsAt 5 = .ok (.if_icmp .lt (5), 3) := by decide +kernel
theorem d_S_failsAt_8 : decode b_S_failsAt 8 = .ok (.iconst 0, 1) := by decide +kernel
theorem d_S_failsAt_9 : decode b_S_failsAt 9 = .ok (.ireturn, 1) := by decide +kernel
theorem d_S_failsAt_10 : decode b_S_failsAt 10 = .ok (.aload_n 0, 1) := by decide +kernel
theorem d_S_failsAt_11 : decode b_S_failsAt 11 = .ok (.getfield 18, 3) := by decide +kernel
theorem d_S_failsAt_14 : decode b_S_failsAt 14 = .ok (.iload_n 1, 1) := by decide +kernel
theorem d_S_failsAt_15 : decode b_S_failsAt 15 = .ok (.iconst 3, 1) := by decide +kernel
theorem d_S_failsAt_16 : decode b_S_failsAt 16 = .ok (.idiv, 1) := by decide +kernel
theorem d_S_failsAt_17 : decode b_S_failsAt 17 = .ok (.iaload, 1) := by decide +kernel
theorem d_S_failsAt_18 : decode b_S_failsAt 18 = .ok (.istore_n 2, 1) := by decide +kernel
theorem d_S_failsAt_19 : decode b_S_failsAt 19 = .ok (.iload_n 2, 1) := by decide +kernel
theorem d_S_failsAt_20 : decode b_S_failsAt 20 = .ok (.iconst (-1), 1) := by decide +kernel
theorem d_S_failsAt_21 : decode b_S_failsAt 21 = .ok (.if_icmp .ne (5), 3) := by decide +kernel
theorem d_S_failsAt_24 : decode b_S_failsAt 24 = .ok (.iconst 0, 1) := by decide +kernel
theorem d_S_failsAt_25 : decode b_S_failsAt 25 = .ok (.ireturn, 1) := by decide +kernel
theorem d_S_failsAt_26 : decode b_S_failsAt 26 = .ok (.aload_n 0, 1) := by decide +kernel
theorem d_S_failsAt_27 : decode b_S_failsAt 27 = .ok (.getfield 12, 3) := by decide +kernel
theorem d_S_failsAt_30 : decode b_S_failsAt 30 = .ok (.iload_n 2, 1) := by decide +kernel
theorem d_S_failsAt_31 : decode b_S_failsAt 31 = .ok (.invokevirtual 120, 3) := by decide +kernel
theorem d_S_failsAt_34 : decode b_S_failsAt 34 = .ok (.ifCond .eq (22), 3) := by decide +kernel
theorem d_S_failsAt_37 : decode b_S_failsAt 37 = .ok (.aload_n 0, 1) := by decide +kernel
theorem d_S_failsAt_38 : decode b_S_failsAt 38 = .ok (.getfield 12, 3) := by decide +kernel
theorem d_S_failsAt_41 : decode b_S_failsAt 41 = .ok (.iload_n 2, 1) := by decide +kernel
theorem d_S_failsAt_42 : decode b_S_failsAt 42 = .ok (.iload_n 1, 1) := by decide +kernel
theorem d_S_failsAt_43 : decode b_S_failsAt 43 = .ok (.iconst 3, 1) := by decide +kernel
theorem d_S_failsAt_44 : decode b_S_failsAt 44 = .ok (.irem, 1) := by decide +kernel
theorem d_S_failsAt_45 : decode b_S_failsAt 45 = .ok (.invokevirtual 130, 3) := by decide +kernel
theorem d_S_failsAt_48 : decode b_S_failsAt 48 = .ok (.aload_n 0, 1) := by decide +kernel
theorem d_S_failsAt_49 : decode b_S_failsAt 49 = .ok (.iload_n 1, 1) := by decide +kernel
theorem d_S_failsAt_50 : decode b_S_failsAt 50 = .ok (.invokevirtual 133, 3) := by decide +kernel
theorem d_S_failsAt_53 : decode b_S_failsAt 53 = .ok (.if_icmp .eq (7), 3) := by decide +kernel
theorem d_S_failsAt_56 : decode b_S_failsAt 56 = .ok (.iconst 1, 1) := by decide +kernel
theorem d_S_failsAt_57 : decode b_S_failsAt 57 = .ok (.goto (4), 3) := by decide +kernel
theorem d_S_failsAt_60 : decode b_S_failsAt 60 = .ok (.iconst 0, 1) := by decide +kernel
theorem d_S_failsAt_61 : decode b_S_failsAt 61 = .ok (.ireturn, 1) := by decide +kernel
theorem d_N_length_0 : decode b_N_length 0 = .ok (.aload_n 0, 1) := by decide +kernel
theorem d_N_length_1 : decode b_N_length 1 = .ok (.getfield 13, 3) := by decide +kernel
theorem d_N_length_4 : decode b_N_length 4 = .ok (.ireturn, 1) := by decide +kernel
theorem d_N_byteAt_0 : decode b_N_byteAt 0 = .ok (.aload_n 0, 1) := by decide +kernel
theorem d_N_byteAt_1 : decode b_N_byteAt 1 = .ok (.getfield 9, 3) := by decide +kernel
theorem d_N_byteAt_4 : decode b_N_byteAt 4 = .ok (.iload_n 1, 1) := by decide +kernel
theorem d_N_byteAt_5 : decode b_N_byteAt 5 = .ok (.baload, 1) := by decide +kernel
theorem d_N_byteAt_6 : decode b_N_byteAt 6 = .ok (.ireturn, 1) := by decide +kernel
theorem d_N_addByte_0 : decode b_N_addByte 0 = .ok (.aload_n 0, 1) := by decide +kernel
theorem d_N_addByte_1 : decode b_N_addByte 1 = .ok (.getfield 13, 3) := by decide +kernel
theorem d_N_addByte_4 : decode b_N_addByte 4 = .ok (.bipush 32, 2) := by decide +kernel
theorem d_N_addByte_6 : decode b_N_addByte 6 = .ok (.if_icmp .ge (24), 3) := by decide +kernel
theorem d_N_addByte_9 : decode b_N_addByte 9 = .ok (.aload_n 0, 1) := by decide +kernel
theorem d_N_addByte_10 : decode b_N_addByte 10 = .ok (.getfield 9, 3) := by decide +kernel
theorem d_N_addByte_13 : decode b_N_addByte 13 = .ok (.aload_n 0, 1) := by decide +kernel
theorem d_N_addByte_14 : decode b_N_addByte 14 = .ok (.getfield 13, 3) := by decide +kernel
theorem d_N_addByte_17 : decode b_N_addByte 17 = .ok (.iload_n 1, 1) := by decide +kernel
theorem d_N_addByte_18 : decode b_N_addByte 18 = .ok (.i2b, 1) := by decide +kernel
theorem d_N_addByte_19 : decode b_N_addByte 19 = .ok (.bastore, 1) := by decide +kernel
theorem d_N_addByte_20 : decode b_N_addByte 20 = .ok (.aload_n 0, 1) := by decide +kernel
theorem d_N_addByte_21 : decode b_N_addByte 21 = .ok (.dup, 1) := by decide +kernel
theorem d_N_addByte_22 : decode b_N_addByte 22 = .ok (.getfield 13, 3) := by decide +kernel
theorem d_N_addByte_25 : decode b_N_addByte 25 = .ok (.iconst 1, 1) := by decide +kernel
theorem d_N_addByte_26 : decode b_N_addByte 26 = .ok (.iadd, 1) := by decide +kernel
theorem d_N_addByte_27 : decode b_N_addByte 27 = .ok (.putfield 13, 3) := by decide +kernel
theorem d_N_addByte_30 : decode b_N_addByte 30 = .ok (.return_, 1) := by decide +kernel
theorem d_N_digitsOf_0 : decode b_N_digitsOf 0 = .ok (.iconst 1, 1) := by decide +kernel
theorem d_N_digitsOf_1 : decode b_N_digitsOf 1 = .ok (.istore_n 2, 1) := by decide +kernel
theorem d_N_digitsOf_2 : decode b_N_digitsOf 2 = .ok (.ldc2_w 46, 3) := by decide +kernel
theorem d_N_digitsOf_5 : decode b_N_digitsOf 5 = .ok (.lstore_n 3, 1) := by decide +kernel
theorem d_N_digitsOf_6 : decode b_N_digitsOf 6 = .ok (.iload_n 2, 1) := by decide +kernel
theorem d_N_digitsOf_7 : decode b_N_digitsOf 7 = .ok (.bipush 10, 2) := by decide +kernel
theorem d_N_digitsOf_9 : decode b_N_digitsOf 9 = .ok (.if_icmp .ge (21), 3) := by decide +kernel
theorem d_N_digitsOf_12 : decode b_N_digitsOf 12 = .ok (.lload_n 0, 1) := by decide +kernel
theorem d_N_digitsOf_13 : decode b_N_digitsOf 13 = .ok (.lload_n 3, 1) := by decide +kernel
theorem d_N_digitsOf_14 : decode b_N_digitsOf 14 = .ok (.lcmp, 1) := by decide +kernel
theorem d_N_digitsOf_15 : decode b_N_digitsOf 15 = .ok (.ifCond .lt (15), 3) := by decide +kernel
theorem d_N_digitsOf_18 : decode b_N_digitsOf 18 = .ok (.iinc 2 1, 3) := by decide +kernel
theorem d_N_digitsOf_21 : decode b_N_digitsOf 21 = .ok (.lload_n 3, 1) := by decide +kernel
theorem d_N_digitsOf_22 : decode b_N_digitsOf 22 = .ok (.ldc2_w 46, 3) := by decide +kernel
theorem d_N_digitsOf_25 : decode b_N_digitsOf 25 = .ok (.lmul, 1) := by decide +kernel
theorem d_N_digitsOf_26 : decode b_N_digitsOf 26 = .ok (.lstore_n 3, 1) := by decide +kernel
theorem d_N_digitsOf_27 : decode b_N_digitsOf 27 = .ok (.goto (-21), 3) := by decide +kernel
theorem d_N_digitsOf_30 : decode b_N_digitsOf 30 = .ok (.iload_n 2, 1) := by decide +kernel
theorem d_N_digitsOf_31 : decode b_N_digitsOf 31 = .ok (.ireturn, 1) := by decide +kernel
theorem d_N_addNumber_0 : decode b_N_addNumber 0 = .ok (.iload_n 1, 1) := by decide +kernel
theorem d_N_addNumber_1 : decode b_N_addNumber 1 = .ok (.i2l, 1) := by decide +kernel
theorem d_N_addNumber_2 : decode b_N_addNumber 2 = .ok (.lstore_n 2, 1) := by decide +kernel
theorem d_N_addNumber_3 : decode b_N_addNumber 3 = .ok (.lload_n 2, 1) := by decide +kernel
theorem d_N_addNumber_4 : decode b_N_addNumber 4 = .ok (.lconst 0, 1) := by decide +kernel
theorem d_N_addNumber_5 : decode b_N_addNumber 5 = .ok (.lcmp, 1) := by decide +kernel
theorem d_N_addNumber_6 : decode b_N_addNumber 6 = .ok (.ifCond .ge (12), 3) := by decide +kernel
theorem d_N_addNumber_9 : decode b_N_addNumber 9 = .ok (.aload_n 0, 1) := by decide +kernel
theorem d_N_addNumber_10 : decode b_N_addNumber 10 = .ok (.bipush 45, 2) := by decide +kernel
theorem d_N_addNumber_12 : decode b_N_addNumber 12 = .ok (.invokevirtual 21, 3) := by decide +kernel
theorem d_N_addNumber_15 : decode b_N_addNumber 15 = .ok (.lload_n 2, 1) := by decide +kernel
theorem d_N_addNumber_16 : decode b_N_addNumber 16 = .ok (.lneg, 1) := by decide +kernel
theorem d_N_addNumber_17 : decode b_N_addNumber 17 = .ok (.lstore_n 2, 1) := by decide +kernel
theorem d_N_addNumber_18 : decode b_N_addNumber 18 = .ok (.lload_n 2, 1) := by decide +kernel
theorem d_N_addNumber_19 : decode b_N_addNumber 19 = .ok (.invokestatic 40, 3) := by decide +kernel
theorem d_N_addNumber_22 : decode b_N_addNumber 22 = .ok (.istore 4, 2) := by decide +kernel
theorem d_N_addNumber_24 : decode b_N_addNumber 24 = .ok (.aload_n 0, 1) := by decide +kernel
theorem d_N_addNumber_25 : decode b_N_addNumber 25 = .ok (.getfield 13, 3) := by decide +kernel
theorem d_N_addNumber_28 : decode b_N_addNumber 28 = .ok (.iload 4, 2) := by decide +kernel
theorem d_N_addNumber_30 : decode b_N_addNumber 30 = .ok (.iadd, 1) := by decide +kernel
theorem d_N_addNumber_31 : decode b_N_addNumber 31 = .ok (.bipush 32, 2) := by decide +kernel
theorem d_N_addNumber_33 : decode b_N_addNumber 33 = .ok (.if_icmp .le (4), 3) := by decide +kernel
theorem d_N_addNumber_36 : decode b_N_addNumber 36 = .ok (.return_, 1) := by decide +kernel
theorem d_N_addNumber_37 : decode b_N_addNumber 37 = .ok (.aload_n 0, 1) := by decide +kernel
theorem d_N_addNumber_38 : decode b_N_addNumber 38 = .ok (.getfield 13, 3) := by decide +kernel
theorem d_N_addNumber_41 : decode b_N_addNumber 41 = .ok (.iload 4, 2) := by decide +kernel
theorem d_N_addNumber_43 : decode b_N_addNumber 43 = .ok (.iadd, 1) := by decide +kernel
theorem d_N_addNumber_44 : decode b_N_addNumber 44 = .ok (.iconst 1, 1) := by decide +kernel
theorem d_N_addNumber_45 : decode b_N_addNumber 45 = .ok (.isub, 1) := by decide +kernel
theorem d_N_addNumber_46 : decode b_N_addNumber 46 = .ok (.istore 5, 2) := by decide +kernel
