theorem d_C_isPowered_0 : decode b_C_isPowered 0 = .ok (.aload_n 0, 1) := by decide +kernel
theorem d_C_isPowered_1 : decode b_C_isPowered 1 = .ok (.getfield 22, 3) := by decide +kernel
theorem d_C_isPowered_4 : decode b_C_isPowered 4 = .ok (.ireturn, 1) := by decide +kernel
theorem d_C_read_0 : decode b_C_read 0 = .ok (.aload_n 0, 1) := by decide +kernel
theorem d_C_read_1 : decode b_C_read 1 = .ok (.getfield 9, 3) := by decide +kernel
theorem d_C_read_4 : decode b_C_read 4 = .ok (.iload_n 1, 1) := by decide +kernel
theorem d_C_read_5 : decode b_C_read 5 = .ok (.bipush 16, 2) := by decide +kernel
theorem d_C_read_7 : decode b_C_read 7 = .ok (.imul, 1) := by decide +kernel
theorem d_C_read_8 : decode b_C_read 8 = .ok (.iload_n 2, 1) := by decide +kernel
theorem d_C_read_9 : decode b_C_read 9 = .ok (.iadd, 1) := by decide +kernel
theorem d_C_read_10 : decode b_C_read 10 = .ok (.iaload, 1) := by decide +kernel
theorem d_C_read_11 : decode b_C_read 11 = .ok (.ireturn, 1) := by decide +kernel
theorem d_C_wearAt_0 : decode b_C_wearAt 0 = .ok (.aload_n 0, 1) := by decide +kernel
theorem d_C_wearAt_1 : decode b_C_wearAt 1 = .ok (.getfield 15, 3) := by decide +kernel
theorem d_C_wearAt_4 : decode b_C_wearAt 4 = .ok (.iload_n 1, 1) := by decide +kernel
theorem d_C_wearAt_5 : decode b_C_wearAt 5 = .ok (.iaload, 1) := by decide +kernel
theorem d_C_wearAt_6 : decode b_C_wearAt 6 = .ok (.ireturn, 1) := by decide +kernel
theorem d_C_hasFailed_0 : decode b_C_hasFailed 0 = .ok (.aload_n 0, 1) := by decide +kernel
theorem d_C_hasFailed_1 : decode b_C_hasFailed 1 = .ok (.getfield 18, 3) := by decide +kernel
theorem d_C_hasFailed_4 : decode b_C_hasFailed 4 = .ok (.iload_n 1, 1) := by decide +kernel
theorem d_C_hasFailed_5 : decode b_C_hasFailed 5 = .ok (.baload, 1) := by decide +kernel
theorem d_C_hasFailed_6 : decode b_C_hasFailed 6 = .ok (.ireturn, 1) := by decide +kernel
theorem d_C_turnOff_0 : decode b_C_turnOff 0 = .ok (.aload_n 0, 1) := by decide +kernel
theorem d_C_turnOff_1 : decode b_C_turnOff 1 = .ok (.iconst 0, 1) := by decide +kernel
theorem d_C_turnOff_2 : decode b_C_turnOff 2 = .ok (.putfield 22, 3) := by decide +kernel
theorem d_C_turnOff_5 : decode b_C_turnOff 5 = .ok (.aload_n 0, 1) := by decide +kernel
theorem d_C_turnOff_6 : decode b_C_turnOff 6 = .ok (.iconst (-1), 1) := by decide +kernel
theorem d_C_turnOff_7 : decode b_C_turnOff 7 = .ok (.putfield 26, 3) := by decide +kernel
theorem d_C_turnOff_10 : decode b_C_turnOff 10 = .ok (.return_, 1) := by decide +kernel
theorem d_C_turnOn_0 : decode b_C_turnOn 0 = .ok (.aload_n 0, 1) := by decide +kernel
theorem d_C_turnOn_1 : decode b_C_turnOn 1 = .ok (.iconst 1, 1) := by decide +kernel
theorem d_C_turnOn_2 : decode b_C_turnOn 2 = .ok (.putfield 22, 3) := by decide +kernel
theorem d_C_turnOn_5 : decode b_C_turnOn 5 = .ok (.return_, 1) := by decide +kernel
theorem d_C_tellCut_0 : decode b_C_tellCut 0 = .ok (.aload_n 0, 1) := by decide +kernel
theorem d_C_tellCut_1 : decode b_C_tellCut 1 = .ok (.iload_n 1, 1) := by decide +kernel
theorem d_C_tellCut_2 : decode b_C_tellCut 2 = .ok (.putfield 26, 3) := by decide +kernel
theorem d_C_tellCut_5 : decode b_C_tellCut 5 = .ok (.return_, 1) := by decide +kernel
theorem d_C_flip_0 : decode b_C_flip 0 = .ok (.aload_n 0, 1) := by decide +kernel
theorem d_C_flip_1 : decode b_C_flip 1 = .ok (.getfield 9, 3) := by decide +kernel
theorem d_C_flip_4 : decode b_C_flip 4 = .ok (.iload_n 1, 1) := by decide +kernel
theorem d_C_flip_5 : decode b_C_flip 5 = .ok (.bipush 16, 2) := by decide +kernel
theorem d_C_flip_7 : decode b_C_flip 7 = .ok (.imul, 1) := by decide +kernel
theorem d_C_flip_8 : decode b_C_flip 8 = .ok (.iload_n 2, 1) := by decide +kernel
theorem d_C_flip_9 : decode b_C_flip 9 = .ok (.iadd, 1) := by decide +kernel
theorem d_C_flip_10 : decode b_C_flip 10 = .ok (.dup2, 1) := by decide +kernel
theorem d_C_flip_11 : decode b_C_flip 11 = .ok (.iaload, 1) := by decide +kernel
theorem d_C_flip_12 : decode b_C_flip 12 = .ok (.iload_n 3, 1) := by decide +kernel
theorem d_C_flip_13 : decode b_C_flip 13 = .ok (.ixor, 1) := by decide +kernel
theorem d_C_flip_14 : decode b_C_flip 14 = .ok (.iastore, 1) := by decide +kernel
theorem d_C_flip_15 : decode b_C_flip 15 = .ok (.return_, 1) := by decide +kernel
theorem d_C_markFailed_0 : decode b_C_markFailed 0 = .ok (.aload_n 0, 1) := by decide +kernel
theorem d_C_markFailed_1 : decode b_C_markFailed 1 = .ok (.getfield 18, 3) := by decide +kernel
theorem d_C_markFailed_4 : decode b_C_markFailed 4 = .ok (.iload_n 1, 1) := by decide +kernel
theorem d_C_markFailed_5 : decode b_C_markFailed 5 = .ok (.iconst 1, 1) := by decide +kernel
theorem d_C_markFailed_6 : decode b_C_markFailed 6 = .ok (.bastore, 1) := by decide +kernel
theorem d_C_markFailed_7 : decode b_C_markFailed 7 = .ok (.return_, 1) := by decide +kernel
theorem d_C_mayStep_0 : decode b_C_mayStep 0 = .ok (.aload_n 0, 1) := by decide +kernel
theorem d_C_mayStep_1 : decode b_C_mayStep 1 = .ok (.getfield 26, 3) := by decide +kernel
theorem d_C_mayStep_4 : decode b_C_mayStep 4 = .ok (.ifCond .ne (16), 3) := by decide +kernel
theorem d_C_mayStep_7 : decode b_C_mayStep 7 = .ok (.aload_n 0, 1) := by decide +kernel
theorem d_C_mayStep_8 : decode b_C_mayStep 8 = .ok (.iconst 0, 1) := by decide +kernel
theorem d_C_mayStep_9 : decode b_C_mayStep 9 = .ok (.putfield 22, 3) := by decide +kernel
theorem d_C_mayStep_12 : decode b_C_mayStep 12 = .ok (.aload_n 0, 1) := by decide +kernel
theorem d_C_mayStep_13 : decode b_C_mayStep 13 = .ok (.iconst (-1), 1) := by decide +kernel
theorem d_C_mayStep_14 : decode b_C_mayStep 14 = .ok (.putfield 26, 3) := by decide +kernel
theorem d_C_mayStep_17 : decode b_C_mayStep 17 = .ok (.goto (20), 3) := by decide +kernel
theorem d_C_mayStep_20 : decode b_C_mayStep 20 = .ok (.aload_n 0, 1) := by decide +kernel
theorem d_C_mayStep_21 : decode b_C_mayStep 21 = .ok (.getfield 26, 3) := by decide +kernel
theorem d_C_mayStep_24 : decode b_C_mayStep 24 = .ok (.ifCond .le (13), 3) := by decide +kernel
theorem d_C_mayStep_27 : decode b_C_mayStep 27 = .ok (.aload_n 0, 1) := by decide +kernel
theorem d_C_mayStep_28 : decode b_C_mayStep 28 = .ok (.dup, 1) := by decide +kernel
theorem d_C_mayStep_29 : decode b_C_mayStep 29 = .ok (.getfield 26, 3) := by decide +kernel
theorem d_C_mayStep_32 : decode b_C_mayStep 32 = .ok (.iconst 1, 1) := by decide +kernel
theorem d_C_mayStep_33 : decode b_C_mayStep 33 = .ok (.isub, 1) := by decide +kernel
theorem d_C_mayStep_34 : decode b_C_mayStep 34 = .ok (.putfield 26, 3) := by decide +kernel
theorem d_C_mayStep_37 : decode b_C_mayStep 37 = .ok (.aload_n 0, 1) := by decide +kernel
theorem d_C_mayStep_38 : decode b_C_mayStep 38 = .ok (.getfield 22, 3) := by decide +kernel
theorem d_C_mayStep_41 : decode b_C_mayStep 41 = .ok (.ireturn, 1) := by decide +kernel
theorem d_C_writePage_0 : decode b_C_writePage 0 = .ok (.iconst 0, 1) := by decide +kernel
theorem d_C_writePage_1 : decode b_C_writePage 1 = .ok (.istore_n 3, 1) := by decide +kernel
theorem d_C_writePage_2 : decode b_C_writePage 2 = .ok (.iload_n 3, 1) := by decide +kernel
theorem d_C_writePage_3 : decode b_C_writePage 3 = .ok (.bipush 16, 2) := by decide +kernel
theorem d_C_writePage_5 : decode b_C_writePage 5 = .ok (.if_icmp .ge (32), 3) := by decide +kernel
theorem d_C_writePage_8 : decode b_C_writePage 8 = .ok (.aload_n 0, 1) := by decide +kernel
theorem d_C_writePage_9 : decode b_C_writePage 9 = .ok (.invokevirtual 30, 3) := by decide +kernel
theorem d_C_writePage_12 : decode b_C_writePage 12 = .ok (.ifCond .ne (5), 3) := by decide +kernel
theorem d_C_writePage_15 : decode b_C_writePage 15 = .ok (.iconst 0, 1) := by decide +kernel
theorem d_C_writePage_16 : decode b_C_writePage 16 = .ok (.ireturn, 1) := by decide +kernel
theorem d_C_writePage_17 : decode b_C_writePage 17 = .ok (.aload_n 0, 1) := by decide +kernel
theorem d_C_writePage_18 : decode b_C_writePage 18 = .ok (.getfield 9, 3) := by decide +kernel
theorem d_C_writePage_21 : decode b_C_writePage 21 = .ok (.iload_n 1, 1) := by decide +kernel
theorem d_C_writePage_22 : decode b_C_writePage 22 = .ok (.bipush 16, 2) := by decide +kernel
theorem d_C_writePage_24 : decode b_C_writePage 24 = .ok (.imul, 1) := by decide +kernel
theorem d_C_writePage_25 : decode b_C_writePage 25 = .ok (.iload_n 3, 1) := by decide +kernel
theorem d_C_writePage_26 : decode b_C_writePage 26 = .ok (.iadd, 1) := by decide +kernel
theorem d_C_writePage_27 : decode b_C_writePage 27 = .ok (.aload_n 2, 1) := by decide +kernel
theorem d_C_writePage_28 : decode b_C_writePage 28 = .ok (.iload_n 3, 1) := by decide +kernel
theorem d_C_writePage_29 : decode b_C_writePage 29 = .ok (.iaload, 1) := by decide +kernel
theorem d_C_writePage_30 : decode b_C_writePage 30 = .ok (.iastore, 1) := by decide +kernel
theorem d_C_writePage_31 : decode b_C_writePage 31 = .ok (.iinc 3 1, 3) := by decide +kernel
theorem d_C_writePage_34 : decode b_C_writePage 34 = .ok (.goto (-32), 3) := by decide +kernel
theorem d_C_writePage_37 : decode b_C_writePage 37 = .ok (.iconst 1, 1) := by decide +kernel
theorem d_C_writePage_38 : decode b_C_writePage 38 = .ok (.ireturn, 1) := by decide +kernel
theorem d_C_eraseBlock_0 : decode b_C_eraseBlock 0 = .ok (.aload_n 0, 1) := by decide +kernel
theorem d_C_eraseBlock_1 : decode b_C_eraseBlock 1 = .ok (.invokevirtual 30, 3) := by decide +kernel
theorem d_C_eraseBlock_4 : decode b_C_eraseBlock 4 = .ok (.ifCond .ne (5), 3) := by decide +kernel
theorem d_C_eraseBlock_7 : decode b_C_eraseBlock 7 = .ok (.iconst 0, 1) := by decide +kernel
theorem d_C_eraseBlock_8 : decode b_C_eraseBlock 8 = .ok (.ireturn, 1) := by decide +kernel
theorem d_C_eraseBlock_9 : decode b_C_eraseBlock 9 = .ok (.iload_n 1, 1) := by decide +kernel
theorem d_C_eraseBlock_10 : decode b_C_eraseBlock 10 = .ok (.iconst 4, 1) := by decide +kernel
theorem d_C_eraseBlock_11 : decode b_C_eraseBlock 11 = .ok (.imul, 1) := by decide +kernel
theorem d_C_eraseBlock_12 : decode b_C_eraseBlock 12 = .ok (.bipush 16, 2) := by decide +kernel
theorem d_C_eraseBlock_14 : decode b_C_eraseBlock 14 = .ok (.imul, 1) := by decide +kernel
theorem d_C_eraseBlock_15 : decode b_C_eraseBlock 15 = .ok (.istore_n 2, 1) := by decide +kernel
theorem d_C_eraseBlock_16 : decode b_C_eraseBlock 16 = .ok (.iconst 0, 1) := by decide +kernel
theorem d_C_eraseBlock_17 : decode b_C_eraseBlock 17 = .ok (.istore_n 3, 1) := by decide +kernel
theorem d_C_eraseBlock_18 : decode b_C_eraseBlock 18 = .ok (.iload_n 3, 1) := by decide +kernel
theorem d_C_eraseBlock_19 : decode b_C_eraseBlock 19 = .ok (.bipush 64, 2) := by decide +kernel
theorem d_C_eraseBlock_21 : decode b_C_eraseBlock 21 = .ok (.if_icmp .ge (18), 3) := by decide +kernel
theorem d_C_eraseBlock_24 : decode b_C_eraseBlock 24 = .ok (.aload_n 0, 1) := by decide +kernel
theorem d_C_eraseBlock_25 : decode b_C_eraseBlock 25 = .ok (.getfield 9, 3) := by decide +kernel
theorem d_C_eraseBlock_28 : decode b_C_eraseBlock 28 = .ok (.iload_n 2, 1) := by decide +kernel
theorem d_C_eraseBlock_29 : decode b_C_eraseBlock 29 = .ok (.iload_n 3, 1) := by decide +kernel
theorem d_C_eraseBlock_30 : decode b_C_eraseBlock 30 = .ok (.iadd, 1) := by decide +kernel
theorem d_C_eraseBlock_31 : decode b_C_eraseBlock 31 = .ok (.iconst (-1), 1) := by decide +kernel
theorem d_C_eraseBlock_32 : decode b_C_eraseBlock 32 = .ok (.iastore, 1) := by decide +kernel
theorem d_C_eraseBlock_33 : decode b_C_eraseBlock 33 = .ok (.iinc 3 1, 3) := by decide +kernel
theorem d_C_eraseBlock_36 : decode b_C_eraseBlock 36 = .ok (.goto (-18), 3) := by decide +kernel
theorem d_C_eraseBlock_39 : decode b_C_eraseBlock 39 = .ok (.aload_n 0, 1) := by decide +kernel
theorem d_C_eraseBlock_40 : decode b_C_eraseBlock 40 = .ok (.getfield 15, 3) := by decide +kernel
theorem d_C_eraseBlock_43 : decode b_C_eraseBlock 43 = .ok (.iload_n 1, 1) := by decide +kernel
theorem d_C_eraseBlock_44 : decode b_C_eraseBlock 44 = .ok (.dup2, 1) := by decide +kernel
theorem d_C_eraseBlock_45 : decode b_C_eraseBlock 45 = .ok (.iaload, 1) := by decide +kernel
theorem d_C_eraseBlock_46 : decode b_C_eraseBlock 46 = .ok (.iconst 1, 1) := by decide +kernel
theorem d_C_eraseBlock_47 : decode b_C_eraseBlock 47 = .ok (.iadd, 1) := by decide +kernel
theorem d_C_eraseBlock_48 : decode b_C_eraseBlock 48 = .ok (.iastore, 1) := by decide +kernel
theorem d_C_eraseBlock_49 : decode b_C_eraseBlock 49 = .ok (.iconst 1, 1) := by decide +kernel
theorem d_C_eraseBlock_50 : decode b_C_eraseBlock 50 = .ok (.ireturn, 1) := by decide +kernel
theorem d_C_isFree_0 : decode b_C_isFree 0 = .ok (.iload_n 1, 1) := by decide +kernel
theorem d_C_isFree_1 : decode b_C_isFree 1 = .ok (.bipush 16, 2) := by decide +kernel
theorem d_C_isFree_3 : decode b_C_isFree 3 = .ok (.imul, 1) := by decide +kernel
theorem d_C_isFree_4 : decode b_C_isFree 4 = .ok (.istore_n 2, 1) := by decide +kernel
theorem d_C_isFree_5 : decode b_C_isFree 5 = .ok (.iload_n 2, 1) := by decide +kernel
theorem d_C_isFree_6 : decode b_C_isFree 6 = .ok (.istore_n 3, 1) := by decide +kernel
theorem d_C_isFree_7 : decode b_C_isFree 7 = .ok (.iload_n 3, 1) := by decide +kernel
theorem d_C_isFree_8 : decode b_C_isFree 8 = .ok (.iload_n 2, 1) := by decide +kernel
theorem d_C_isFree_9 : decode b_C_isFree 9 = .ok (.bipush 16, 2) := by decide +kernel
theorem d_C_isFree_11 : decode b_C_isFree 11 = .ok (.iadd, 1) := by decide +kernel
theorem d_C_isFree_12 : decode b_C_isFree 12 = .ok (.if_icmp .ge (21), 3) := by decide +kernel
theorem d_C_isFree_15 : decode b_C_isFree 15 = .ok (.aload_n 0, 1) := by decide +kernel
theorem d_C_isFree_16 : decode b_C_isFree 16 = .ok (.getfield 9, 3) := by decide +kernel
theorem d_C_isFree_19 : decode b_C_isFree 19 = .ok (.iload_n 3, 1) := by decide +kernel
theorem d_C_isFree_20 : decode b_C_isFree 20 = .ok (.iaload, 1) := by decide +kernel
theorem d_C_isFree_21 : decode b_C_isFree 21 = .ok (.iconst (-1), 1) := by decide +kernel
theorem d_C_isFree_22 : decode b_C_isFree 22 = .ok (.if_icmp .eq (5), 3) := by decide +kernel
theorem d_C_isFree_25 : decode b_C_isFree 25 = .ok (.iconst 0, 1) := by decide +kernel
theorem d_C_isFree_26 : decode b_C_isFree 26 = .ok (.ireturn, 1) := by decide +kernel
theorem d_C_isFree_27 : decode b_C_isFree 27 = .ok (.iinc 3 1, 3) := by decide +kernel
theorem d_C_isFree_30 : decode b_C_isFree 30 = .ok (.goto (-23), 3) := by decide +kernel
theorem d_C_isFree_33 : decode b_C_isFree 33 = .ok (.iconst 1, 1) := by decide +kernel
theorem d_C_isFree_34 : decode b_C_isFree 34 = .ok (.ireturn, 1) := by decide +kernel
theorem d_R_sumOf_0 : decode b_R_sumOf 0 = .ok (.sipush 7989, 3) := by decide +kernel
theorem d_R_sumOf_3 : decode b_R_sumOf 3 = .ok (.istore_n 3, 1) := by decide +kernel
theorem d_R_sumOf_4 : decode b_R_sumOf 4 = .ok (.iload_n 1, 1) := by decide +kernel
theorem d_R_sumOf_5 : decode b_R_sumOf 5 = .ok (.istore 4, 2) := by decide +kernel
theorem d_R_sumOf_7 : decode b_R_sumOf 7 = .ok (.iload 4, 2) := by decide +kernel
theorem d_R_sumOf_9 : decode b_R_sumOf 9 = .ok (.iload_n 1, 1) := by decide +kernel
theorem d_R_sumOf_10 : decode b_R_sumOf 10 = .ok (.iload_n 2, 1) := by decide +kernel
theorem d_R_sumOf_11 : decode b_R_sumOf 11 = .ok (.iadd, 1) := by decide +kernel
theorem d_R_sumOf_12 : decode b_R_sumOf 12 = .ok (.if_icmp .ge (30), 3) := by decide +kernel
theorem d_R_sumOf_15 : decode b_R_sumOf 15 = .ok (.iload_n 3, 1) := by decide +kernel
theorem d_R_sumOf_16 : decode b_R_sumOf 16 = .ok (.aload_n 0, 1) := by decide +kernel
theorem d_R_sumOf_17 : decode b_R_sumOf 17 = .ok (.iload 4, 2) := by decide +kernel
theorem d_R_sumOf_19 : decode b_R_sumOf 19 = .ok (.iaload, 1) := by decide +kernel
theorem d_R_sumOf_20 : decode b_R_sumOf 20 = .ok (.ixor, 1) := by decide +kernel
theorem d_R_sumOf_21 : decode b_R_sumOf 21 = .ok (.istore_n 3, 1) := by decide +kernel
theorem d_R_sumOf_22 : decode b_R_sumOf 22 = .ok (.iload_n 3, 1) := by decide +kernel
theorem d_R_sumOf_23 : decode b_R_sumOf 23 = .ok (.iconst 5, 1) := by decide +kernel
theorem d_R_sumOf_24 : decode b_R_sumOf 24 = .ok (.ishl, 1) := by decide +kernel
theorem d_R_sumOf_25 : decode b_R_sumOf 25 = .ok (.iload_n 3, 1) := by decide +kernel
theorem d_R_sumOf_26 : decode b_R_sumOf 26 = .ok (.bipush 27, 2) := by decide +kernel
theorem d_R_sumOf_28 : decode b_R_sumOf 28 = .ok (.iushr, 1) := by decide +kernel
theorem d_R_sumOf_29 : decode b_R_sumOf 29 = .ok (.ior, 1) := by decide +kernel
theorem d_R_sumOf_30 : decode b_R_sumOf 30 = .ok (.istore_n 3, 1) := by decide +kernel
theorem d_R_sumOf_31 : decode b_R_sumOf 31 = .ok (.iload_n 3, 1) := by decide +kernel
theorem d_R_sumOf_32 : decode b_R_sumOf 32 = .ok (.ldc 219, 2) := by decide +kernel
theorem d_R_sumOf_34 : decode b_R_sumOf 34 = .ok (.iadd, 1) := by decide +kernel
theorem d_R_sumOf_35 : decode b_R_sumOf 35 = .ok (.istore_n 3, 1) := by decide +kernel
theorem d_R_sumOf_36 : decode b_R_sumOf 36 = .ok (.iinc 4 1, 3) := by decide +kernel
theorem d_R_sumOf_39 : decode b_R_sumOf 39 = .ok (.goto (-32), 3) := by decide +kernel
theorem d_R_sumOf_42 : decode b_R_sumOf 42 = .ok (.iload_n 3, 1) := by decide +kernel
theorem d_R_sumOf_43 : decode b_R_sumOf 43 = .ok (.ireturn, 1) := by decide +kernel
theorem d_C_isRight_0 : decode b_C_isRight 0 = .ok (.aload_n 0, 1) := by decide +kernel
theorem d_C_isRight_1 : decode b_C_isRight 1 = .ok (.iload_n 1, 1) := by decide +kernel
theorem d_C_isRight_2 : decode b_C_isRight 2 = .ok (.iconst 0, 1) := by decide +kernel
theorem d_C_isRight_3 : decode b_C_isRight 3 = .ok (.invokevirtual 34, 3) := by decide +kernel
theorem d_C_isRight_6 : decode b_C_isRight 6 = .ok (.istore_n 2, 1) := by decide +kernel
theorem d_C_isRight_7 : decode b_C_isRight 7 = .ok (.iload_n 2, 1) := by decide +kernel
theorem d_C_isRight_8 : decode b_C_isRight 8 = .ok (.ifCond .le (54), 3) := by decide +kernel
theorem d_C_isRight_11 : decode b_C_isRight 11 = .ok (.iload_n 2, 1) := by decide +kernel
theorem d_C_isRight_12 : decode b_C_isRight 12 = .ok (.bipush 64, 2) := by decide +kernel
theorem d_C_isRight_14 : decode b_C_isRight 14 = .ok (.if_icmp .ge (48), 3) := by decide +kernel
theorem d_C_isRight_17 : decode b_C_isRight 17 = .ok (.iload_n 2, 1) := by decide +kernel
theorem d_C_isRight_18 : decode b_C_isRight 18 = .ok (.iconst 4, 1) := by decide +kernel
theorem d_C_isRight_19 : decode b_C_isRight 19 = .ok (.irem, 1) := by decide +kernel
theorem d_C_isRight_20 : decode b_C_isRight 20 = .ok (.ifCond .eq (42), 3) := by decide +kernel
theorem d_C_isRight_23 : decode b_C_isRight 23 = .ok (.aload_n 0, 1) := by decide +kernel
theorem d_C_isRight_24 : decode b_C_isRight 24 = .ok (.iload_n 1, 1) := by decide +kernel
theorem d_C_isRight_25 : decode b_C_isRight 25 = .ok (.bipush 15, 2) := by decide +kernel
theorem d_C_isRight_27 : decode b_C_isRight 27 = .ok (.invokevirtual 34, 3) := by decide +kernel
theorem d_C_isRight_30 : decode b_C_isRight 30 = .ok (.ldc 38, 2) := by decide +kernel
theorem d_C_isRight_32 : decode b_C_isRight 32 = .ok (.if_icmp .ne (30), 3) := by decide +kernel
theorem d_C_isRight_35 : decode b_C_isRight 35 = .ok (.aload_n 0, 1) := by decide +kernel
theorem d_C_isRight_36 : decode b_C_isRight 36 = .ok (.iload_n 1, 1) := by decide +kernel
theorem d_C_isRight_37 : decode b_C_isRight 37 = .ok (.bipush 14, 2) := by decide +kernel
theorem d_C_isRight_39 : decode b_C_isRight 39 = .ok (.invokevirtual 34, 3) := by decide +kernel
theorem d_C_isRight_42 : decode b_C_isRight 42 = .ok (.aload_n 0, 1) := by decide +kernel
theorem d_C_isRight_43 : decode b_C_isRight 43 = .ok (.getfield 9, 3) := by decide +kernel
theorem d_C_isRight_46 : decode b_C_isRight 46 = .ok (.iload_n 1, 1) := by decide +kernel
theorem d_C_isRight_47 : decode b_C_isRight 47 = .ok (.bipush 16, 2) := by decide +kernel
theorem d_C_isRight_49 : decode b_C_isRight 49 = .ok (.imul, 1) := by decide +kernel
theorem d_C_isRight_50 : decode b_C_isRight 50 = .ok (.bipush 14, 2) := by decide +kernel
theorem d_C_isRight_52 : decode b_C_isRight 52 = .ok (.invokestatic 39, 3) := by decide +kernel
theorem d_C_isRight_55 : decode b_C_isRight 55 = .ok (.if_icmp .ne (7), 3) := by decide +kernel
theorem d_C_isRight_58 : decode b_C_isRight 58 = .ok (.iconst 1, 1) := by decide +kernel
theorem d_C_isRight_59 : decode b_C_isRight 59 = .ok (.goto (4), 3) := by decide +kernel
theorem d_C_isRight_62 : decode b_C_isRight 62 = .ok (.iconst 0, 1) := by decide +kernel
theorem d_C_isRight_63 : decode b_C_isRight 63 = .ok (.ireturn, 1) := by decide +kernel
theorem d_C_linkAt_0 : decode b_C_linkAt 0 = .ok (.aload_n 0, 1) := by decide +kernel
theorem d_C_linkAt_1 : decode b_C_linkAt 1 = .ok (.iload_n 1, 1) := by decide +kernel
theorem d_C_linkAt_2 : decode b_C_linkAt 2 = .ok (.iconst 2, 1) := by decide +kernel
theorem d_C_linkAt_3 : decode b_C_linkAt 3 = .ok (.iload_n 2, 1) := by decide +kernel
theorem d_C_linkAt_4 : decode b_C_linkAt 4 = .ok (.iconst 4, 1) := by decide +kernel
theorem d_C_linkAt_5 : decode b_C_linkAt 5 = .ok (.imul, 1) := by decide +kernel
theorem d_C_linkAt_6 : decode b_C_linkAt 6 = .ok (.iadd, 1) := by decide +kernel
theorem d_C_linkAt_7 : decode b_C_linkAt 7 = .ok (.iconst 4, 1) := by decide +kernel
theorem d_C_linkAt_8 : decode b_C_linkAt 8 = .ok (.iadd, 1) := by decide +kernel
theorem d_C_linkAt_9 : decode b_C_linkAt 9 = .ok (.iconst 1, 1) := by decide +kernel
theorem d_C_linkAt_10 : decode b_C_linkAt 10 = .ok (.isub, 1) := by decide +kernel
theorem d_C_linkAt_11 : decode b_C_linkAt 11 = .ok (.invokevirtual 34, 3) := by decide +kernel
theorem d_C_linkAt_14 : decode b_C_linkAt 14 = .ok (.ireturn, 1) := by decide +kernel
theorem d_C_sumOfRecordAt_0 : decode b_C_sumOfRecordAt 0 = .ok (.aload_n 0, 1) := by decide +kernel
theorem d_C_sumOfRecordAt_1 : decode b_C_sumOfRecordAt 1 = .ok (.getfield 9, 3) := by decide +kernel
theorem d_C_sumOfRecordAt_4 : decode b_C_sumOfRecordAt 4 = .ok (.iload_n 1, 1) := by decide +kernel
theorem d_C_sumOfRecordAt_5 : decode b_C_sumOfRecordAt 5 = .ok (.bipush 16, 2) := by decide +kernel
theorem d_C_sumOfRecordAt_7 : decode b_C_sumOfRecordAt 7 = .ok (.imul, 1) := by decide +kernel
theorem d_C_sumOfRecordAt_8 : decode b_C_sumOfRecordAt 8 = .ok (.iconst 2, 1) := by decide +kernel
theorem d_C_sumOfRecordAt_9 : decode b_C_sumOfRecordAt 9 = .ok (.iadd, 1) := by decide +kernel
theorem d_C_sumOfRecordAt_10 : decode b_C_sumOfRecordAt 10 = .ok (.iload_n 2, 1) := by decide +kernel
theorem d_C_sumOfRecordAt_11 : decode b_C_sumOfRecordAt 11 = .ok (.iconst 4, 1) := by decide +kernel
theorem d_C_sumOfRecordAt_12 : decode b_C_sumOfRecordAt 12 = .ok (.imul, 1) := by decide +kernel
theorem d_C_sumOfRecordAt_13 : decode b_C_sumOfRecordAt 13 = .ok (.iadd, 1) := by decide +kernel
theorem d_C_sumOfRecordAt_14 : decode b_C_sumOfRecordAt 14 = .ok (.iconst 4, 1) := by decide +kernel
theorem d_C_sumOfRecordAt_15 : decode b_C_sumOfRecordAt 15 = .ok (.invokestatic 39, 3) := by decide +kernel
theorem d_C_sumOfRecordAt_18 : decode b_C_sumOfRecordAt 18 = .ok (.ireturn, 1) := by decide +kernel
theorem d_C_firstFreePage_0 : decode b_C_firstFreePage 0 = .ok (.iload_n 1, 1) := by decide +kernel
theorem d_C_firstFreePage_1 : decode b_C_firstFreePage 1 = .ok (.iconst 4, 1) := by decide +kernel
theorem d_C_firstFreePage_2 : decode b_C_firstFreePage 2 = .ok (.imul, 1) := by decide +kernel
theorem d_C_firstFreePage_3 : decode b_C_firstFreePage 3 = .ok (.istore_n 2, 1) := by decide +kernel
theorem d_C_firstFreePage_4 : decode b_C_firstFreePage 4 = .ok (.iload_n 2, 1) := by decide +kernel
theorem d_C_firstFreePage_5 : decode b_C_firstFreePage 5 = .ok (.iload_n 1, 1) := by decide +kernel
theorem d_C_firstFreePage_6 : decode b_C_firstFreePage 6 = .ok (.iconst 1, 1) := by decide +kernel
theorem d_C_firstFreePage_7 : decode b_C_firstFreePage 7 = .ok (.iadd, 1) := by decide +kernel
theorem d_C_firstFreePage_8 : decode b_C_firstFreePage 8 = .ok (.iconst 4, 1) := by decide +kernel
theorem d_C_firstFreePage_9 : decode b_C_firstFreePage 9 = .ok (.imul, 1) := by decide +kernel
theorem d_C_firstFreePage_10 : decode b_C_firstFreePage 10 = .ok (.if_icmp .ge (19), 3) := by decide +kernel
theorem d_C_firstFreePage_13 : decode b_C_firstFreePage 13 = .ok (.aload_n 0, 1) := by decide +kernel
theorem d_C_firstFreePage_14 : decode b_C_firstFreePage 14 = .ok (.iload_n 2, 1) := by decide +kernel
theorem d_C_firstFreePage_15 : decode b_C_firstFreePage 15 = .ok (.invokevirtual 43, 3) := by decide +kernel
theorem d_C_firstFreePage_18 : decode b_C_firstFreePage 18 = .ok (.ifCond .eq (5), 3) := by decide +kernel
theorem d_C_firstFreePage_21 : decode b_C_firstFreePage 21 = .ok (.iload_n 2, 1) := by decide +kernel
theorem d_C_firstFreePage_22 : decode b_C_firstFreePage 22 = .ok (.ireturn, 1) := by decide +kernel
theorem d_C_firstFreePage_23 : decode b_C_firstFreePage 23 = .ok (.iinc 2 1, 3) := by decide +kernel
theorem d_C_firstFreePage_26 : decode b_C_firstFreePage 26 = .ok (.goto (-22), 3) := by decide +kernel
theorem d_C_firstFreePage_29 : decode b_C_firstFreePage 29 = .ok (.iconst (-1), 1) := by decide +kernel
theorem d_C_firstFreePage_30 : decode b_C_firstFreePage 30 = .ok (.ireturn, 1) := by decide +kernel
theorem d_C_freePagesOf_0 : decode b_C_freePagesOf 0 = .ok (.iconst 0, 1) := by decide +kernel
theorem d_C_freePagesOf_1 : decode b_C_freePagesOf 1 = .ok (.istore_n 2, 1) := by decide +kernel
theorem d_C_freePagesOf_2 : decode b_C_freePagesOf 2 = .ok (.iload_n 1, 1) := by decide +kernel
theorem d_C_freePagesOf_3 : decode b_C_freePagesOf 3 = .ok (.iconst 4, 1) := by decide +kernel
theorem d_C_freePagesOf_4 : decode b_C_freePagesOf 4 = .ok (.imul, 1) := by decide +kernel
theorem d_C_freePagesOf_5 : decode b_C_freePagesOf 5 = .ok (.istore_n 3, 1) := by decide +kernel
theorem d_C_freePagesOf_6 : decode b_C_freePagesOf 6 = .ok (.iload_n 3, 1) := by decide +kernel
theorem d_C_freePagesOf_7 : decode b_C_freePagesOf 7 = .ok (.iload_n 1, 1) := by decide +kernel
theorem d_C_freePagesOf_8 : decode b_C_freePagesOf 8 = .ok (.iconst 1, 1) := by decide +kernel
theorem d_C_freePagesOf_9 : decode b_C_freePagesOf 9 = .ok (.iadd, 1) := by decide +kernel
theorem d_C_freePagesOf_10 : decode b_C_freePagesOf 10 = .ok (.iconst 4, 1) := by decide +kernel
theorem d_C_freePagesOf_11 : decode b_C_freePagesOf 11 = .ok (.imul, 1) := by decide +kernel
theorem d_C_freePagesOf_12 : decode b_C_freePagesOf 12 = .ok (.if_icmp .ge (20), 3) := by decide +kernel
theorem d_C_freePagesOf_15 : decode b_C_freePagesOf 15 = .ok (.aload_n 0, 1) := by decide +kernel
theorem d_C_freePagesOf_16 : decode b_C_freePagesOf 16 = .ok (.iload_n 3, 1) := by decide +kernel
theorem d_C_freePagesOf_17 : decode b_C_freePagesOf 17 = .ok (.invokevirtual 43, 3) := by decide +kernel
theorem d_C_freePagesOf_20 : decode b_C_freePagesOf 20 = .ok (.ifCond .eq (6), 3) := by decide +kernel
theorem d_C_freePagesOf_23 : decode b_C_freePagesOf 23 = .ok (.iinc 2 1, 3) := by decide +kernel
theorem d_C_freePagesOf_26 : decode b_C_freePagesOf 26 = .ok (.iinc 3 1, 3) := by decide +kernel
theorem d_C_freePagesOf_29 : decode b_C_freePagesOf 29 = .ok (.goto (-23), 3) := by decide +kernel
theorem d_C_freePagesOf_32 : decode b_C_freePagesOf 32 = .ok (.iload_n 2, 1) := by decide +kernel
theorem d_C_freePagesOf_33 : decode b_C_freePagesOf 33 = .ok (.ireturn, 1) := by decide +kernel
theorem d_C_usableFreePages_0 : decode b_C_usableFreePages 0 = .ok (.iconst 0, 1) := by decide +kernel
theorem d_C_usableFreePages_1 : decode b_C_usableFreePages 1 = .ok (.istore_n 1, 1) := by decide +kernel
theorem d_C_usableFreePages_2 : decode b_C_usableFreePages 2 = .ok (.iconst 0, 1) := by decide +kernel
theorem d_C_usableFreePages_3 : decode b_C_usableFreePages 3 = .ok (.istore_n 2, 1) := by decide +kernel
theorem d_C_usableFreePages_4 : decode b_C_usableFreePages 4 = .ok (.iload_n 2, 1) := by decide +kernel
theorem d_C_usableFreePages_5 : decode b_C_usableFreePages 5 = .ok (.bipush 8, 2) := by decide +kernel
theorem d_C_usableFreePages_7 : decode b_C_usableFreePages 7 = .ok (.if_icmp .ge (26), 3) := by decide +kernel
theorem d_C_usableFreePages_10 : decode b_C_usableFreePages 10 = .ok (.aload_n 0, 1) := by decide +kernel
theorem d_C_usableFreePages_11 : decode b_C_usableFreePages 11 = .ok (.getfield 18, 3) := by decide +kernel
theorem d_C_usableFreePages_14 : decode b_C_usableFreePages 14 = .ok (.iload_n 2, 1) := by decide +kernel
theorem d_C_usableFreePages_15 : decode b_C_usableFreePages 15 = .ok (.baload, 1) := by decide +kernel
theorem d_C_usableFreePages_16 : decode b_C_usableFreePages 16 = .ok (.ifCond .ne (11), 3) := by decide +kernel
theorem d_C_usableFreePages_19 : decode b_C_usableFreePages 19 = .ok (.iload_n 1, 1) := by decide +kernel
theorem d_C_usableFreePages_20 : decode b_C_usableFreePages 20 = .ok (.aload_n 0, 1) := by decide +kernel
theorem d_C_usableFreePages_21 : decode b_C_usableFreePages 21 = .ok (.iload_n 2, 1) := by decide +kernel
theorem d_C_usableFreePages_22 : decode b_C_usableFreePages 22 = .ok (.invokevirtual 47, 3) := by decide +kernel
theorem d_C_usableFreePages_25 : decode b_C_usableFreePages 25 = .ok (.iadd, 1) := by decide +kernel
theorem d_C_usableFreePages_26 : decode b_C_usableFreePages 26 = .ok (.istore_n 1, 1) := by decide +kernel
theorem d_C_usableFreePages_27 : decode b_C_usableFreePages 27 = .ok (.iinc 2 1, 3) := by decide +kernel
theorem d_C_usableFreePages_30 : decode b_C_usableFreePages 30 = .ok (.goto (-26), 3) := by decide +kernel
theorem d_C_usableFreePages_33 : decode b_C_usableFreePages 33 = .ok (.iload_n 1, 1) := by decide +kernel
theorem d_C_usableFreePages_34 : decode b_C_usableFreePages 34 = .ok (.ireturn, 1) := by decide +kernel
theorem d_C_isClean_0 : decode b_C_isClean 0 = .ok (.aload_n 0, 1) := by decide +kernel
theorem d_C_isClean_1 : decode b_C_isClean 1 = .ok (.getfield 18, 3) := by decide +kernel
theorem d_C_isClean_4 : decode b_C_isClean 4 = .ok (.iload_n 1, 1) := by decide +kernel
theorem d_C_isClean_5 : decode b_C_isClean 5 = .ok (.baload, 1) := by decide +kernel
theorem d_C_isClean_6 : decode b_C_isClean 6 = .ok (.ifCond .ne (16), 3) := by decide +kernel
theorem d_C_isClean_9 : decode b_C_isClean 9 = .ok (.aload_n 0, 1) := by decide +kernel
theorem d_C_isClean_10 : decode b_C_isClean 10 = .ok (.iload_n 1, 1) := by decide +kernel
theorem d_C_isClean_11 : decode b_C_isClean 11 = .ok (.invokevirtual 47, 3) := by decide +kernel
theorem d_C_isClean_14 : decode b_C_isClean 14 = .ok (.iconst 4, 1) := by decide +kernel
theorem d_C_isClean_15 : decode b_C_isClean 15 = .ok (.if_icmp .ne (7), 3) := by decide +kernel
theorem d_C_isClean_18 : decode b_C_isClean 18 = .ok (.iconst 1, 1) := by decide +kernel
theorem d_C_isClean_19 : decode b_C_isClean 19 = .ok (.goto (4), 3) := by decide +kernel
theorem d_C_isClean_22 : decode b_C_isClean 22 = .ok (.iconst 0, 1) := by decide +kernel
theorem d_C_isClean_23 : decode b_C_isClean 23 = .ok (.ireturn, 1) := by decide +kernel
theorem d_C_cleanBlockCount_0 : decode b_C_cleanBlockCount 0 = .ok (.iconst 0, 1) := by decide +kernel
theorem d_C_cleanBlockCount_1 : decode b_C_cleanBlockCount 1 = .ok (.istore_n 1, 1) := by decide +kernel
theorem d_C_cleanBlockCount_2 : decode b_C_cleanBlockCount 2 = .ok (.iconst 0, 1) := by decide +kernel
theorem d_C_cleanBlockCount_3 : decode b_C_cleanBlockCount 3 = .ok (.istore_n 2, 1) := by decide +kernel
theorem d_C_cleanBlockCount_4 : decode b_C_cleanBlockCount 4 = .ok (.iload_n 2, 1) := by decide +kernel
theorem d_C_cleanBlockCount_5 : decode b_C_cleanBlockCount 5 = .ok (.bipush 8, 2) := by decide +kernel
theorem d_C_cleanBlockCount_7 : decode b_C_cleanBlockCount 7 = .ok (.if_icmp .ge (20), 3) := by decide +kernel
theorem d_C_cleanBlockCount_10 : decode b_C_cleanBlockCount 10 = .ok (.aload_n 0, 1) := by decide +kernel
theorem d_C_cleanBlockCount_11 : decode b_C_cleanBlockCount 11 = .ok (.iload_n 2, 1) := by decide +kernel
theorem d_C_cleanBlockCount_12 : decode b_C_cleanBlockCount 12 = .ok (.invokevirtual 51, 3) := by decide +kernel
theorem d_C_cleanBlockCount_15 : decode b_C_cleanBlockCount 15 = .ok (.ifCond .eq (6), 3) := by decide +kernel
theorem d_C_cleanBlockCount_18 : decode b_C_cleanBlockCount 18 = .ok (.iinc 1 1, 3) := by decide +kernel
theorem d_C_cleanBlockCount_21 : decode b_C_cleanBlockCount 21 = .ok (.iinc 2 1, 3) := by decide +kernel
theorem d_C_cleanBlockCount_24 : decode b_C_cleanBlockCount 24 = .ok (.goto (-20), 3) := by decide +kernel
theorem d_C_cleanBlockCount_27 : decode b_C_cleanBlockCount 27 = .ok (.iload_n 1, 1) := by decide +kernel
theorem d_C_cleanBlockCount_28 : decode b_C_cleanBlockCount 28 = .ok (.ireturn, 1) := by decide +kernel
theorem d_C_leastWornCleanBlock_0 : decode b_C_leastWornCleanBlock 0 = .ok (.iconst (-1), 1) := by decide +kernel
theorem d_C_leastWornCleanBlock_1 : decode b_C_leastWornCleanBlock 1 = .ok (.istore_n 1, 1) := by decide +kernel
theorem d_C_leastWornCleanBlock_2 : decode b_C_leastWornCleanBlock 2 = .ok (.iconst 0, 1) := by decide +kernel
theorem d_C_leastWornCleanBlock_3 : decode b_C_leastWornCleanBlock 3 = .ok (.istore_n 2, 1) := by decide +kernel
theorem d_C_leastWornCleanBlock_4 : decode b_C_leastWornCleanBlock 4 = .ok (.iload_n 2, 1) := by decide +kernel
theorem d_C_leastWornCleanBlock_5 : decode b_C_leastWornCleanBlock 5 = .ok (.bipush 8, 2) := by decide +kernel
theorem d_C_leastWornCleanBlock_7 : decode b_C_leastWornCleanBlock 7 = .ok (.if_icmp .ge (39), 3) := by decide +kernel
theorem d_C_leastWornCleanBlock_10 : decode b_C_leastWornCleanBlock 10 = .ok (.aload_n 0, 1) := by decide +kernel
theorem d_C_leastWornCleanBlock_11 : decode b_C_leastWornCleanBlock 11 = .ok (.iload_n 2, 1) := by decide +kernel
theorem d_C_leastWornCleanBlock_12 : decode b_C_leastWornCleanBlock 12 = .ok (.invokevirtual 51, 3) := by decide +kernel
theorem d_C_leastWornCleanBlock_15 : decode b_C_leastWornCleanBlock 15 = .ok (.ifCond .eq (25), 3) := by decide +kernel
theorem d_C_leastWornCleanBlock_18 : decode b_C_leastWornCleanBlock 18 = .ok (.iload_n 1, 1) := by decide +kernel
theorem d_C_leastWornCleanBlock_19 : decode b_C_leastWornCleanBlock 19 = .ok (.iconst (-1), 1) := by decide +kernel
theorem d_C_leastWornCleanBlock_20 : decode b_C_leastWornCleanBlock 20 = .ok (.if_icmp .eq (18), 3) := by decide +kernel
theorem d_C_leastWornCleanBlock_23 : decode b_C_leastWornCleanBlock 23 = .ok (.aload_n 0, 1) := by decide +kernel
theorem d_C_leastWornCleanBlock_24 : decode b_C_leastWornCleanBlock 24 = .ok (.getfield 15, 3) := by decide +kernel
theorem d_C_leastWornCleanBlock_27 : decode b_C_leastWornCleanBlock 27 = .ok (.iload_n 2, 1) := by decide +kernel
theorem d_C_leastWornCleanBlock_28 : decode b_C_leastWornCleanBlock 28 = .ok (.iaload, 1) := by decide +kernel
theorem d_C_leastWornCleanBlock_29 : decode b_C_leastWornCleanBlock 29 = .ok (.aload_n 0, 1) := by decide +kernel
theorem d_C_leastWornCleanBlock_30 : decode b_C_leastWornCleanBlock 30 = .ok (.getfield 15, 3) := by decide +kernel
theorem d_C_leastWornCleanBlock_33 : decode b_C_leastWornCleanBlock 33 = .ok (.iload_n 1, 1) := by decide +kernel
theorem d_C_leastWornCleanBlock_34 : decode b_C_leastWornCleanBlock 34 = .ok (.iaload, 1) := by decide +kernel
theorem d_C_leastWornCleanBlock_35 : decode b_C_leastWornCleanBlock 35 = .ok (.if_icmp .ge (5), 3) := by decide +kernel
theorem d_C_leastWornCleanBlock_38 : decode b_C_leastWornCleanBlock 38 = .ok (.iload_n 2, 1) := by decide +kernel
theorem d_C_leastWornCleanBlock_39 : decode b_C_leastWornCleanBlock 39 = .ok (.istore_n 1, 1) := by decide +kernel
theorem d_C_leastWornCleanBlock_40 : decode b_C_leastWornCleanBlock 40 = .ok (.iinc 2 1, 3) := by decide +kernel
theorem d_C_leastWornCleanBlock_43 : decode b_C_leastWornCleanBlock 43 = .ok (.goto (-39), 3) := by decide +kernel
theorem d_C_leastWornCleanBlock_46 : decode b_C_leastWornCleanBlock 46 = .ok (.iload_n 1, 1) := by decide +kernel
theorem d_C_leastWornCleanBlock_47 : decode b_C_leastWornCleanBlock 47 = .ok (.ireturn, 1) := by decide +kernel
theorem d_G_recordCount_0 : decode b_G_recordCount 0 = .ok (.aload_n 0, 1) := by decide +kernel
theorem d_G_recordCount_1 : decode b_G_recordCount 1 = .ok (.getfield 21, 3) := by decide +kernel
theorem d_G_recordCount_4 : decode b_G_recordCount 4 = .ok (.ireturn, 1) := by decide +kernel
theorem d_G_ticketCount_0 : decode b_G_ticketCount 0 = .ok (.aload_n 0, 1) := by decide +kernel
theorem d_G_ticketCount_1 : decode b_G_ticketCount 1 = .ok (.getfield 25, 3) := by decide +kernel
theorem d_G_ticketCount_4 : decode b_G_ticketCount 4 = .ok (.ireturn, 1) := by decide +kernel
theorem d_G_empty_0 : decode b_G_empty 0 = .ok (.aload_n 0, 1) := by decide +kernel
theorem d_G_empty_1 : decode b_G_empty 1 = .ok (.iconst 0, 1) := by decide +kernel
theorem d_G_empty_2 : decode b_G_empty 2 = .ok (.putfield 21, 3) := by decide +kernel
theorem d_G_empty_5 : decode b_G_empty 5 = .ok (.aload_n 0, 1) := by decide +kernel
theorem d_G_empty_6 : decode b_G_empty 6 = .ok (.iconst 0, 1) := by decide +kernel
theorem d_G_empty_7 : decode b_G_empty 7 = .ok (.putfield 25, 3) := by decide +kernel
theorem d_G_empty_10 : decode b_G_empty 10 = .ok (.return_, 1) := by decide +kernel
theorem d_G_isFull_0 : decode b_G_isFull 0 = .ok (.aload_n 0, 1) := by decide +kernel
theorem d_G_isFull_1 : decode b_G_isFull 1 = .ok (.getfield 21, 3) := by decide +kernel
theorem d_G_isFull_4 : decode b_G_isFull 4 = .ok (.bipush 48, 2) := by decide +kernel
theorem d_G_isFull_6 : decode b_G_isFull 6 = .ok (.if_icmp .lt (7), 3) := by decide +kernel
theorem d_G_isFull_9 : decode b_G_isFull 9 = .ok (.iconst 1, 1) := by decide +kernel
theorem d_G_isFull_10 : decode b_G_isFull 10 = .ok (.goto (4), 3) := by decide +kernel
theorem d_G_isFull_13 : decode b_G_isFull 13 = .ok (.iconst 0, 1) := by decide +kernel
theorem d_G_isFull_14 : decode b_G_isFull 14 = .ok (.ireturn, 1) := by decide +kernel
theorem d_G_nextFillsLeaf_0 : decode b_G_nextFillsLeaf 0 = .ok (.aload_n 0, 1) := by decide +kernel
theorem d_G_nextFillsLeaf_1 : decode b_G_nextFillsLeaf 1 = .ok (.getfield 21, 3) := by decide +kernel
theorem d_G_nextFillsLeaf_4 : decode b_G_nextFillsLeaf 4 = .ok (.iconst 3, 1) := by decide +kernel
theorem d_G_nextFillsLeaf_5 : decode b_G_nextFillsLeaf 5 = .ok (.irem, 1) := by decide +kernel
theorem d_G_nextFillsLeaf_6 : decode b_G_nextFillsLeaf 6 = .ok (.iconst 2, 1) := by decide +kernel
theorem d_G_nextFillsLeaf_7 : decode b_G_nextFillsLeaf 7 = .ok (.if_icmp .ne (7), 3) := by decide +kernel
theorem d_G_nextFillsLeaf_10 : decode b_G_nextFillsLeaf 10 = .ok (.iconst 1, 1) := by decide +kernel
theorem d_G_nextFillsLeaf_11 : decode b_G_nextFillsLeaf 11 = .ok (.goto (4), 3) := by decide +kernel
theorem d_G_nextFillsLeaf_14 : decode b_G_nextFillsLeaf 14 = .ok (.iconst 0, 1) := by decide +kernel
theorem d_G_nextFillsLeaf_15 : decode b_G_nextFillsLeaf 15 = .ok (.ireturn, 1) := by decide +kernel
theorem d_G_hasTicket_0 : decode b_G_hasTicket 0 = .ok (.iload_n 1, 1) := by decide +kernel
theorem d_G_hasTicket_1 : decode b_G_hasTicket 1 = .ok (.iconst 1, 1) := by decide +kernel
theorem d_G_hasTicket_2 : decode b_G_hasTicket 2 = .ok (.if_icmp .lt (15), 3) := by decide +kernel
theorem d_G_hasTicket_5 : decode b_G_hasTicket 5 = .ok (.iload_n 1, 1) := by decide +kernel
theorem d_G_hasTicket_6 : decode b_G_hasTicket 6 = .ok (.aload_n 0, 1) := by decide +kernel
theorem d_G_hasTicket_7 : decode b_G_hasTicket 7 = .ok (.getfield 25, 3) := by decide +kernel
theorem d_G_hasTicket_10 : decode b_G_hasTicket 10 = .ok (.if_icmp .gt (7), 3) := by decide +kernel
theorem d_G_hasTicket_13 : decode b_G_hasTicket 13 = .ok (.iconst 1, 1) := by decide +kernel
theorem d_G_hasTicket_14 : decode b_G_hasTicket 14 = .ok (.goto (4), 3) := by decide +kernel
theorem d_G_hasTicket_17 : decode b_G_hasTicket 17 = .ok (.iconst 0, 1) := by decide +kernel
theorem d_G_hasTicket_18 : decode b_G_hasTicket 18 = .ok (.ireturn, 1) := by decide +kernel
theorem d_G_recordOf_0 : decode b_G_recordOf 0 = .ok (.aload_n 0, 1) := by decide +kernel
theorem d_G_recordOf_1 : decode b_G_recordOf 1 = .ok (.getfield 15, 3) := by decide +kernel
theorem d_G_recordOf_4 : decode b_G_recordOf 4 = .ok (.iload_n 1, 1) := by decide +kernel
theorem d_G_recordOf_5 : decode b_G_recordOf 5 = .ok (.iconst 1, 1) := by decide +kernel
theorem d_G_recordOf_6 : decode b_G_recordOf 6 = .ok (.isub, 1) := by decide +kernel
theorem d_G_recordOf_7 : decode b_G_recordOf 7 = .ok (.iaload, 1) := by decide +kernel
theorem d_G_recordOf_8 : decode b_G_recordOf 8 = .ok (.ireturn, 1) := by decide +kernel
theorem d_G_wordOf_0 : decode b_G_wordOf 0 = .ok (.aload_n 0, 1) := by decide +kernel
theorem d_G_wordOf_1 : decode b_G_wordOf 1 = .ok (.getfield 9, 3) := by decide +kernel
theorem d_G_wordOf_4 : decode b_G_wordOf 4 = .ok (.aload_n 0, 1) := by decide +kernel
theorem d_G_wordOf_5 : decode b_G_wordOf 5 = .ok (.iload_n 1, 1) := by decide +kernel
theorem d_G_wordOf_6 : decode b_G_wordOf 6 = .ok (.invokevirtual 55, 3) := by decide +kernel
theorem d_G_wordOf_9 : decode b_G_wordOf 9 = .ok (.iconst 4, 1) := by decide +kernel
theorem d_G_wordOf_10 : decode b_G_wordOf 10 = .ok (.imul, 1) := by decide +kernel
theorem d_G_wordOf_11 : decode b_G_wordOf 11 = .ok (.iload_n 2, 1) := by decide +kernel
theorem d_G_wordOf_12 : decode b_G_wordOf 12 = .ok (.iadd, 1) := by decide +kernel
theorem d_G_wordOf_13 : decode b_G_wordOf 13 = .ok (.iaload, 1) := by decide +kernel
theorem d_G_wordOf_14 : decode b_G_wordOf 14 = .ok (.ireturn, 1) := by decide +kernel
theorem d_G_plateOf_0 : decode b_G_plateOf 0 = .ok (.aload_n 0, 1) := by decide +kernel
theorem d_G_plateOf_1 : decode b_G_plateOf 1 = .ok (.iload_n 1, 1) := by decide +kernel
theorem d_G_plateOf_2 : decode b_G_plateOf 2 = .ok (.iconst 0, 1) := by decide +kernel
theorem d_G_plateOf_3 : decode b_G_plateOf 3 = .ok (.invokevirtual 59, 3) := by decide +kernel
theorem d_G_plateOf_6 : decode b_G_plateOf 6 = .ok (.ireturn, 1) := by decide +kernel
theorem d_G_grossOf_0 : decode b_G_grossOf 0 = .ok (.aload_n 0, 1) := by decide +kernel
theorem d_G_grossOf_1 : decode b_G_grossOf 1 = .ok (.iload_n 1, 1) := by decide +kernel
theorem d_G_grossOf_2 : decode b_G_grossOf 2 = .ok (.iconst 1, 1) := by decide +kernel
theorem d_G_grossOf_3 : decode b_G_grossOf 3 = .ok (.invokevirtual 59, 3) := by decide +kernel
theorem d_G_grossOf_6 : decode b_G_grossOf 6 = .ok (.bipush 18, 2) := by decide +kernel
theorem d_G_grossOf_8 : decode b_G_grossOf 8 = .ok (.iushr, 1) := by decide +kernel
theorem d_G_grossOf_9 : decode b_G_grossOf 9 = .ok (.bipush 20, 2) := by decide +kernel
theorem d_G_grossOf_11 : decode b_G_grossOf 11 = .ok (.imul, 1) := by decide +kernel
theorem d_G_grossOf_12 : decode b_G_grossOf 12 = .ok (.ireturn, 1) := by decide +kernel
theorem d_G_tareOf_0 : decode b_G_tareOf 0 = .ok (.aload_n 0, 1) := by decide +kernel
theorem d_G_tareOf_1 : decode b_G_tareOf 1 = .ok (.iload_n 1, 1) := by decide +kernel
theorem d_G_tareOf_2 : decode b_G_tareOf 2 = .ok (.iconst 1, 1) := by decide +kernel
theorem d_G_tareOf_3 : decode b_G_tareOf 3 = .ok (.invokevirtual 59, 3) := by decide +kernel
theorem d_G_tareOf_6 : decode b_G_tareOf 6 = .ok (.ldc 63, 2) := by decide +kernel
theorem d_G_tareOf_8 : decode b_G_tareOf 8 = .ok (.iand, 1) := by decide +kernel
theorem d_G_tareOf_9 : decode b_G_tareOf 9 = .ok (.ireturn, 1) := by decide +kernel
theorem d_G_netOf_0 : decode b_G_netOf 0 = .ok (.aload_n 0, 1) := by decide +kernel
theorem d_G_netOf_1 : decode b_G_netOf 1 = .ok (.iload_n 1, 1) := by decide +kernel
theorem d_G_netOf_2 : decode b_G_netOf 2 = .ok (.invokevirtual 64, 3) := by decide +kernel
theorem d_G_netOf_5 : decode b_G_netOf 5 = .ok (.aload_n 0, 1) := by decide +kernel
theorem d_G_netOf_6 : decode b_G_netOf 6 = .ok (.iload_n 1, 1) := by decide +kernel
theorem d_G_netOf_7 : decode b_G_netOf 7 = .ok (.invokevirtual 67, 3) := by decide +kernel
theorem d_G_netOf_10 : decode b_G_netOf 10 = .ok (.isub, 1) := by decide +kernel
theorem d_G_netOf_11 : decode b_G_netOf 11 = .ok (.ireturn, 1) := by decide +kernel
theorem d_G_productOf_0 : decode b_G_productOf 0 = .ok (.aload_n 0, 1) := by decide +kernel
theorem d_G_productOf_1 : decode b_G_productOf 1 = .ok (.iload_n 1, 1) := by decide +kernel
theorem d_G_productOf_2 : decode b_G_productOf 2 = .ok (.iconst 2, 1) := by decide +kernel
theorem d_G_productOf_3 : decode b_G_productOf 3 = .ok (.invokevirtual 59, 3) := by decide +kernel
theorem d_G_productOf_6 : decode b_G_productOf 6 = .ok (.bipush 26, 2) := by decide +kernel
theorem d_G_productOf_8 : decode b_G_productOf 8 = .ok (.iushr, 1) := by decide +kernel
theorem d_G_productOf_9 : decode b_G_productOf 9 = .ok (.ireturn, 1) := by decide +kernel
theorem d_G_clockOf_0 : decode b_G_clockOf 0 = .ok (.aload_n 0, 1) := by decide +kernel
theorem d_G_clockOf_1 : decode b_G_clockOf 1 = .ok (.iload_n 1, 1) := by decide +kernel
theorem d_G_clockOf_2 : decode b_G_clockOf 2 = .ok (.iconst 2, 1) := by decide +kernel
theorem d_G_clockOf_3 : decode b_G_clockOf 3 = .ok (.invokevirtual 59, 3) := by decide +kernel
theorem d_G_clockOf_6 : decode b_G_clockOf 6 = .ok (.ldc 70, 2) := by decide +kernel
theorem d_G_clockOf_8 : decode b_G_clockOf 8 = .ok (.iand, 1) := by decide +kernel
theorem d_G_clockOf_9 : decode b_G_clockOf 9 = .ok (.ireturn, 1) := by decide +kernel
theorem d_G_linkOf_0 : decode b_G_linkOf 0 = .ok (.aload_n 0, 1) := by decide +kernel
theorem d_G_linkOf_1 : decode b_G_linkOf 1 = .ok (.iload_n 1, 1) := by decide +kernel
theorem d_G_linkOf_2 : decode b_G_linkOf 2 = .ok (.iconst 3, 1) := by decide +kernel
theorem d_G_linkOf_3 : decode b_G_linkOf 3 = .ok (.invokevirtual 59, 3) := by decide +kernel
theorem d_G_linkOf_6 : decode b_G_linkOf 6 = .ok (.ireturn, 1) := by decide +kernel
theorem d_G_voidedOf_0 : decode b_G_voidedOf 0 = .ok (.aload_n 0, 1) := by decide +kernel
theorem d_G_voidedOf_1 : decode b_G_voidedOf 1 = .ok (.getfield 18, 3) := by decide +kernel
theorem d_G_voidedOf_4 : decode b_G_voidedOf 4 = .ok (.iload_n 1, 1) := by decide +kernel
theorem d_G_voidedOf_5 : decode b_G_voidedOf 5 = .ok (.iconst 1, 1) := by decide +kernel
theorem d_G_voidedOf_6 : decode b_G_voidedOf 6 = .ok (.isub, 1) := by decide +kernel
theorem d_G_voidedOf_7 : decode b_G_voidedOf 7 = .ok (.iaload, 1) := by decide +kernel
theorem d_G_voidedOf_8 : decode b_G_voidedOf 8 = .ok (.ireturn, 1) := by decide +kernel
theorem d_G_isVoided_0 : decode b_G_isVoided 0 = .ok (.aload_n 0, 1) := by decide +kernel
theorem d_G_isVoided_1 : decode b_G_isVoided 1 = .ok (.getfield 18, 3) := by decide +kernel
theorem d_G_isVoided_4 : decode b_G_isVoided 4 = .ok (.iload_n 1, 1) := by decide +kernel
theorem d_G_isVoided_5 : decode b_G_isVoided 5 = .ok (.iconst 1, 1) := by decide +kernel
theorem d_G_isVoided_6 : decode b_G_isVoided 6 = .ok (.isub, 1) := by decide +kernel
theorem d_G_isVoided_7 : decode b_G_isVoided 7 = .ok (.iaload, 1) := by decide +kernel
theorem d_G_isVoided_8 : decode b_G_isVoided 8 = .ok (.ifCond .eq (7), 3) := by decide +kernel
theorem d_G_isVoided_11 : decode b_G_isVoided 11 = .ok (.iconst 1, 1) := by decide +kernel
theorem d_G_isVoided_12 : decode b_G_isVoided 12 = .ok (.goto (4), 3) := by decide +kernel
theorem d_G_isVoided_15 : decode b_G_isVoided 15 = .ok (.iconst 0, 1) := by decide +kernel
theorem d_G_isVoided_16 : decode b_G_isVoided 16 = .ok (.ireturn, 1) := by decide +kernel
theorem d_R_isWithin_0 : decode b_R_isWithin 0 = .ok (.iload_n 0, 1) := by decide +kernel
theorem d_R_isWithin_1 : decode b_R_isWithin 1 = .ok (.iload_n 1, 1) := by decide +kernel
theorem d_R_isWithin_2 : decode b_R_isWithin 2 = .ok (.if_icmp .lt (12), 3) := by decide +kernel
theorem d_R_isWithin_5 : decode b_R_isWithin 5 = .ok (.iload_n 0, 1) := by decide +kernel
theorem d_R_isWithin_6 : decode b_R_isWithin 6 = .ok (.iload_n 2, 1) := by decide +kernel
theorem d_R_isWithin_7 : decode b_R_isWithin 7 = .ok (.if_icmp .gt (7), 3) := by decide +kernel
theorem d_R_isWithin_10 : decode b_R_isWithin 10 = .ok (.iconst 1, 1) := by decide +kernel
theorem d_R_isWithin_11 : decode b_R_isWithin 11 = .ok (.goto (4), 3) := by decide +kernel
theorem d_R_isWithin_14 : decode b_R_isWithin 14 = .ok (.iconst 0, 1) := by decide +kernel
theorem d_R_isWithin_15 : decode b_R_isWithin 15 = .ok (.ireturn, 1) := by decide +kernel
theorem d_G_applyVoiding_0 : decode b_G_applyVoiding 0 = .ok (.aload_n 0, 1) := by decide +kernel
theorem d_G_applyVoiding_1 : decode b_G_applyVoiding 1 = .ok (.iload_n 1, 1) := by decide +kernel
theorem d_G_applyVoiding_2 : decode b_G_applyVoiding 2 = .ok (.invokevirtual 44, 3) := by decide +kernel
theorem d_G_applyVoiding_5 : decode b_G_applyVoiding 5 = .ok (.ifCond .eq (31), 3) := by decide +kernel
theorem d_G_applyVoiding_8 : decode b_G_applyVoiding 8 = .ok (.aload_n 0, 1) := by decide +kernel
theorem d_G_applyVoiding_9 : decode b_G_applyVoiding 9 = .ok (.iload_n 1, 1) := by decide +kernel
theorem d_G_applyVoiding_10 : decode b_G_applyVoiding 10 = .ok (.invokevirtual 48, 3) := by decide +kernel
theorem d_G_applyVoiding_13 : decode b_G_applyVoiding 13 = .ok (.ifCond .ne (23), 3) := by decide +kernel
theorem d_G_applyVoiding_16 : decode b_G_applyVoiding 16 = .ok (.iload_n 2, 1) := by decide +kernel
theorem d_G_applyVoiding_17 : decode b_G_applyVoiding 17 = .ok (.iconst 0, 1) := by decide +kernel
theorem d_G_applyVoiding_18 : decode b_G_applyVoiding 18 = .ok (.iconst 3, 1) := by decide +kernel
theorem d_G_applyVoiding_19 : decode b_G_applyVoiding 19 = .ok (.invokestatic 51, 3) := by decide +kernel
theorem d_G_applyVoiding_22 : decode b_G_applyVoiding 22 = .ok (.ifCond .eq (14), 3) := by decide +kernel
theorem d_G_applyVoiding_25 : decode b_G_applyVoiding 25 = .ok (.aload_n 0, 1) := by decide +kernel
theorem d_G_applyVoiding_26 : decode b_G_applyVoiding 26 = .ok (.getfield 18, 3) := by decide +kernel
theorem d_G_applyVoiding_29 : decode b_G_applyVoiding 29 = .ok (.iload_n 1, 1) := by decide +kernel
theorem d_G_applyVoiding_30 : decode b_G_applyVoiding 30 = .ok (.iconst 1, 1) := by decide +kernel
theorem d_G_applyVoiding_31 : decode b_G_applyVoiding 31 = .ok (.isub, 1) := by decide +kernel
theorem d_G_applyVoiding_32 : decode b_G_applyVoiding 32 = .ok (.iload_n 2, 1) := by decide +kernel
theorem d_G_applyVoiding_33 : decode b_G_applyVoiding 33 = .ok (.iconst 1, 1) := by decide +kernel
theorem d_G_applyVoiding_34 : decode b_G_applyVoiding 34 = .ok (.iadd, 1) := by decide +kernel
theorem d_G_applyVoiding_35 : decode b_G_applyVoiding 35 = .ok (.iastore, 1) := by decide +kernel
theorem d_G_applyVoiding_36 : decode b_G_applyVoiding 36 = .ok (.return_, 1) := by decide +kernel
theorem d_G_addLinked_0 : decode b_G_addLinked 0 = .ok (.aload_n 0, 1) := by decide +kernel
theorem d_G_addLinked_1 : decode b_G_addLinked 1 = .ok (.invokevirtual 36, 3) := by decide +kernel
theorem d_G_addLinked_4 : decode b_G_addLinked 4 = .ok (.ifCond .eq (4), 3) := by decide +kernel
theorem d_G_addLinked_7 : decode b_G_addLinked 7 = .ok (.return_, 1) := by decide +kernel
theorem d_G_addLinked_8 : decode b_G_addLinked 8 = .ok (.aload_n 0, 1) := by decide +kernel
theorem d_G_addLinked_9 : decode b_G_addLinked 9 = .ok (.getfield 21, 3) := by decide +kernel
theorem d_G_addLinked_12 : decode b_G_addLinked 12 = .ok (.iconst 4, 1) := by decide +kernel
theorem d_G_addLinked_13 : decode b_G_addLinked 13 = .ok (.imul, 1) := by decide +kernel
theorem d_G_addLinked_14 : decode b_G_addLinked 14 = .ok (.istore 5, 2) := by decide +kernel
theorem d_G_addLinked_16 : decode b_G_addLinked 16 = .ok (.aload_n 0, 1) := by decide +kernel
theorem d_G_addLinked_17 : decode b_G_addLinked 17 = .ok (.getfield 9, 3) := by decide +kernel
theorem d_G_addLinked_20 : decode b_G_addLinked 20 = .ok (.iload 5, 2) := by decide +kernel
theorem d_G_addLinked_22 : decode b_G_addLinked 22 = .ok (.iload_n 1, 1) := by decide +kernel
theorem d_G_addLinked_23 : decode b_G_addLinked 23 = .ok (.iastore, 1) := by decide +kernel
theorem d_G_addLinked_24 : decode b_G_addLinked 24 = .ok (.aload_n 0, 1) := by decide +kernel
theorem d_G_addLinked_25 : decode b_G_addLinked 25 = .ok (.getfield 9, 3) := by decide +kernel
theorem d_G_addLinked_28 : decode b_G_addLinked 28 = .ok (.iload 5, 2) := by decide +kernel
theorem d_G_addLinked_30 : decode b_G_addLinked 30 = .ok (.iconst 1, 1) := by decide +kernel
theorem d_G_addLinked_31 : decode b_G_addLinked 31 = .ok (.iadd, 1) := by decide +kernel
theorem d_G_addLinked_32 : decode b_G_addLinked 32 = .ok (.iload_n 2, 1) := by decide +kernel
theorem d_G_addLinked_33 : decode b_G_addLinked 33 = .ok (.iastore, 1) := by decide +kernel
theorem d_G_addLinked_34 : decode b_G_addLinked 34 = .ok (.aload_n 0, 1) := by decide +kernel
theorem d_G_addLinked_35 : decode b_G_addLinked 35 = .ok (.getfield 9, 3) := by decide +kernel
theorem d_G_addLinked_38 : decode b_G_addLinked 38 = .ok (.iload 5, 2) := by decide +kernel
theorem d_G_addLinked_40 : decode b_G_addLinked 40 = .ok (.iconst 2, 1) := by decide +kernel
theorem d_G_addLinked_41 : decode b_G_addLinked 41 = .ok (.iadd, 1) := by decide +kernel
theorem d_G_addLinked_42 : decode b_G_addLinked 42 = .ok (.iload_n 3, 1) := by decide +kernel
theorem d_G_addLinked_43 : decode b_G_addLinked 43 = .ok (.iastore, 1) := by decide +kernel
theorem d_G_addLinked_44 : decode b_G_addLinked 44 = .ok (.aload_n 0, 1) := by decide +kernel
theorem d_G_addLinked_45 : decode b_G_addLinked 45 = .ok (.getfield 9, 3) := by decide +kernel
theorem d_G_addLinked_48 : decode b_G_addLinked 48 = .ok (.iload 5, 2) := by decide +kernel
theorem d_G_addLinked_50 : decode b_G_addLinked 50 = .ok (.iconst 3, 1) := by decide +kernel
theorem d_G_addLinked_51 : decode b_G_addLinked 51 = .ok (.iadd, 1) := by decide +kernel
theorem d_G_addLinked_52 : decode b_G_addLinked 52 = .ok (.iload 4, 2) := by decide +kernel
theorem d_G_addLinked_54 : decode b_G_addLinked 54 = .ok (.iastore, 1) := by decide +kernel
theorem d_G_addLinked_55 : decode b_G_addLinked 55 = .ok (.iload_n 3, 1) := by decide +kernel
theorem d_G_addLinked_56 : decode b_G_addLinked 56 = .ok (.bipush 26, 2) := by decide +kernel
theorem d_G_addLinked_58 : decode b_G_addLinked 58 = .ok (.iushr, 1) := by decide +kernel
theorem d_G_addLinked_59 : decode b_G_addLinked 59 = .ok (.bipush 63, 2) := by decide +kernel
theorem d_G_addLinked_61 : decode b_G_addLinked 61 = .ok (.if_icmp .ne (12), 3) := by decide +kernel
theorem d_G_addLinked_64 : decode b_G_addLinked 64 = .ok (.aload_n 0, 1) := by decide +kernel
theorem d_G_addLinked_65 : decode b_G_addLinked 65 = .ok (.iload_n 1, 1) := by decide +kernel
theorem d_G_addLinked_66 : decode b_G_addLinked 66 = .ok (.iload_n 2, 1) := by decide +kernel
theorem d_G_addLinked_67 : decode b_G_addLinked 67 = .ok (.invokevirtual 40, 3) := by decide +kernel
theorem d_G_addLinked_70 : decode b_G_addLinked 70 = .ok (.goto (36), 3) := by decide +kernel
theorem d_G_addLinked_73 : decode b_G_addLinked 73 = .ok (.aload_n 0, 1) := by decide +kernel
theorem d_G_addLinked_74 : decode b_G_addLinked 74 = .ok (.getfield 15, 3) := by decide +kernel
theorem d_G_addLinked_77 : decode b_G_addLinked 77 = .ok (.aload_n 0, 1) := by decide +kernel
theorem d_G_addLinked_78 : decode b_G_addLinked 78 = .ok (.getfield 25, 3) := by decide +kernel
theorem d_G_addLinked_81 : decode b_G_addLinked 81 = .ok (.aload_n 0, 1) := by decide +kernel
theorem d_G_addLinked_82 : decode b_G_addLinked 82 = .ok (.getfield 21, 3) := by decide +kernel
theorem d_G_addLinked_85 : decode b_G_addLinked 85 = .ok (.iastore, 1) := by decide +kernel
theorem d_G_addLinked_86 : decode b_G_addLinked 86 = .ok (.aload_n 0, 1) := by decide +kernel
theorem d_G_addLinked_87 : decode b_G_addLinked 87 = .ok (.getfield 18, 3) := by decide +kernel
theorem d_G_addLinked_90 : decode b_G_addLinked 90 = .ok (.aload_n 0, 1) := by decide +kernel
theorem d_G_addLinked_91 : decode b_G_addLinked 91 = .ok (.getfield 25, 3) := by decide +kernel
theorem d_G_addLinked_94 : decode b_G_addLinked 94 = .ok (.iconst 0, 1) := by decide +kernel
theorem d_G_addLinked_95 : decode b_G_addLinked 95 = .ok (.iastore, 1) := by decide +kernel
theorem d_G_addLinked_96 : decode b_G_addLinked 96 = .ok (.aload_n 0, 1) := by decide +kernel
theorem d_G_addLinked_97 : decode b_G_addLinked 97 = .ok (.dup, 1) := by decide +kernel
theorem d_G_addLinked_98 : decode b_G_addLinked 98 = .ok (.getfield 25, 3) := by decide +kernel
theorem d_G_addLinked_101 : decode b_G_addLinked 101 = .ok (.iconst 1, 1) := by decide +kernel
theorem d_G_addLinked_102 : decode b_G_addLinked 102 = .ok (.iadd, 1) := by decide +kernel
theorem d_G_addLinked_103 : decode b_G_addLinked 103 = .ok (.putfield 25, 3) := by decide +kernel
theorem d_G_addLinked_106 : decode b_G_addLinked 106 = .ok (.aload_n 0, 1) := by decide +kernel
theorem d_G_addLinked_107 : decode b_G_addLinked 107 = .ok (.dup, 1) := by decide +kernel
theorem d_G_addLinked_108 : decode b_G_addLinked 108 = .ok (.getfield 21, 3) := by decide +kernel
theorem d_G_addLinked_111 : decode b_G_addLinked 111 = .ok (.iconst 1, 1) := by decide +kernel
theorem d_G_addLinked_112 : decode b_G_addLinked 112 = .ok (.iadd, 1) := by decide +kernel
theorem d_G_addLinked_113 : decode b_G_addLinked 113 = .ok (.putfield 21, 3) := by decide +kernel
theorem d_G_addLinked_116 : decode b_G_addLinked 116 = .ok (.return_, 1) := by decide +kernel
theorem d_G_add_0 : decode b_G_add 0 = .ok (.aload_n 0, 1) := by decide +kernel
theorem d_G_add_1 : decode b_G_add 1 = .ok (.getfield 21, 3) := by decide +kernel
theorem d_G_add_4 : decode b_G_add 4 = .ok (.iconst 1, 1) := by decide +kernel
theorem d_G_add_5 : decode b_G_add 5 = .ok (.isub, 1) := by decide +kernel
theorem d_G_add_6 : decode b_G_add 6 = .ok (.iconst 4, 1) := by decide +kernel
theorem d_G_add_7 : decode b_G_add 7 = .ok (.imul, 1) := by decide +kernel
theorem d_G_add_8 : decode b_G_add 8 = .ok (.istore 4, 2) := by decide +kernel
theorem d_G_add_10 : decode b_G_add 10 = .ok (.aload_n 0, 1) := by decide +kernel
theorem d_G_add_11 : decode b_G_add 11 = .ok (.getfield 21, 3) := by decide +kernel
theorem d_G_add_14 : decode b_G_add 14 = .ok (.ifCond .ne (9), 3) := by decide +kernel
theorem d_G_add_17 : decode b_G_add 17 = .ok (.sipush 7989, 3) := by decide +kernel
theorem d_G_add_20 : decode b_G_add 20 = .ok (.goto (13), 3) := by decide +kernel
theorem d_G_add_23 : decode b_G_add 23 = .ok (.aload_n 0, 1) := by decide +kernel
theorem d_G_add_24 : decode b_G_add 24 = .ok (.getfield 9, 3) := by decide +kernel
theorem d_G_add_27 : decode b_G_add 27 = .ok (.iload 4, 2) := by decide +kernel
theorem d_G_add_29 : decode b_G_add 29 = .ok (.iconst 4, 1) := by decide +kernel
theorem d_G_add_30 : decode b_G_add 30 = .ok (.invokestatic 28, 3) := by decide +kernel
theorem d_G_add_33 : decode b_G_add 33 = .ok (.istore 5, 2) := by decide +kernel
theorem d_G_add_35 : decode b_G_add 35 = .ok (.aload_n 0, 1) := by decide +kernel
theorem d_G_add_36 : decode b_G_add 36 = .ok (.iload_n 1, 1) := by decide +kernel
theorem d_G_add_37 : decode b_G_add 37 = .ok (.iload_n 2, 1) := by decide +kernel
theorem d_G_add_38 : decode b_G_add 38 = .ok (.iload_n 3, 1) := by decide +kernel
theorem d_G_add_39 : decode b_G_add 39 = .ok (.iload 5, 2) := by decide +kernel
theorem d_G_add_41 : decode b_G_add 41 = .ok (.invokevirtual 32, 3) := by decide +kernel
theorem d_G_add_44 : decode b_G_add 44 = .ok (.return_, 1) := by decide +kernel
theorem d_G_copyRecords_0 : decode b_G_copyRecords 0 = .ok (.iconst 0, 1) := by decide +kernel
theorem d_G_copyRecords_1 : decode b_G_copyRecords 1 = .ok (.istore 5, 2) := by decide +kernel
theorem d_G_copyRecords_3 : decode b_G_copyRecords 3 = .ok (.iload 5, 2) := by decide +kernel
theorem d_G_copyRecords_5 : decode b_G_copyRecords 5 = .ok (.iload_n 2, 1) := by decide +kernel
theorem d_G_copyRecords_6 : decode b_G_copyRecords 6 = .ok (.iconst 4, 1) := by decide +kernel
theorem d_G_copyRecords_7 : decode b_G_copyRecords 7 = .ok (.imul, 1) := by decide +kernel
theorem d_G_copyRecords_8 : decode b_G_copyRecords 8 = .ok (.if_icmp .ge (27), 3) := by decide +kernel
theorem d_G_copyRecords_11 : decode b_G_copyRecords 11 = .ok (.aload_n 3, 1) := by decide +kernel
theorem d_G_copyRecords_12 : decode b_G_copyRecords 12 = .ok (.iload 4, 2) := by decide +kernel
theorem d_G_copyRecords_14 : decode b_G_copyRecords 14 = .ok (.iload 5, 2) := by decide +kernel
theorem d_G_copyRecords_16 : decode b_G_copyRecords 16 = .ok (.iadd, 1) := by decide +kernel
theorem d_G_copyRecords_17 : decode b_G_copyRecords 17 = .ok (.aload_n 0, 1) := by decide +kernel
theorem d_G_copyRecords_18 : decode b_G_copyRecords 18 = .ok (.getfield 9, 3) := by decide +kernel
theorem d_G_copyRecords_21 : decode b_G_copyRecords 21 = .ok (.iload_n 1, 1) := by decide +kernel
theorem d_G_copyRecords_22 : decode b_G_copyRecords 22 = .ok (.iconst 4, 1) := by decide +kernel
theorem d_G_copyRecords_23 : decode b_G_copyRecords 23 = .ok (.imul, 1) := by decide +kernel
theorem d_G_copyRecords_24 : decode b_G_copyRecords 24 = .ok (.iload 5, 2) := by decide +kernel
theorem d_G_copyRecords_26 : decode b_G_copyRecords 26 = .ok (.iadd, 1) := by decide +kernel
theorem d_G_copyRecords_27 : decode b_G_copyRecords 27 = .ok (.iaload, 1) := by decide +kernel
theorem d_G_copyRecords_28 : decode b_G_copyRecords 28 = .ok (.iastore, 1) := by decide +kernel
theorem d_G_copyRecords_29 : decode b_G_copyRecords 29 = .ok (.iinc 5 1, 3) := by decide +kernel
theorem d_G_copyRecords_32 : decode b_G_copyRecords 32 = .ok (.goto (-29), 3) := by decide +kernel
theorem d_G_copyRecords_35 : decode b_G_copyRecords 35 = .ok (.return_, 1) := by decide +kernel
theorem d_S_isWornOut_0 : decode b_S_isWornOut 0 = .ok (.aload_n 0, 1) := by decide +kernel
theorem d_S_isWornOut_1 : decode b_S_isWornOut 1 = .ok (.getfield 35, 3) := by decide +kernel
theorem d_S_isWornOut_4 : decode b_S_isWornOut 4 = .ok (.ireturn, 1) := by decide +kernel
theorem d_S_durableCount_0 : decode b_S_durableCount 0 = .ok (.aload_n 0, 1) := by decide +kernel
theorem d_S_durableCount_1 : decode b_S_durableCount 1 = .ok (.getfield 32, 3) := by decide +kernel
theorem d_S_durableCount_4 : decode b_S_durableCount 4 = .ok (.ireturn, 1) := by decide +kernel
theorem d_S_latestSerial_0 : decode b_S_latestSerial 0 = .ok (.aload_n 0, 1) := by decide +kernel
theorem d_S_latestSerial_1 : decode b_S_latestSerial 1 = .ok (.getfield 29, 3) := by decide +kernel
theorem d_S_latestSerial_4 : decode b_S_latestSerial 4 = .ok (.ireturn, 1) := by decide +kernel
theorem d_S_cursorBlock_0 : decode b_S_cursorBlock 0 = .ok (.aload_n 0, 1) := by decide +kernel
theorem d_S_cursorBlock_1 : decode b_S_cursorBlock 1 = .ok (.getfield 25, 3) := by decide +kernel
theorem d_S_cursorBlock_4 : decode b_S_cursorBlock 4 = .ok (.ireturn, 1) := by decide +kernel
theorem d_S_isLive_0 : decode b_S_isLive 0 = .ok (.iconst 0, 1) := by decide +kernel
theorem d_S_isLive_1 : decode b_S_isLive 1 = .ok (.istore_n 2, 1) := by decide +kernel
theorem d_S_isLive_2 : decode b_S_isLive 2 = .ok (.iload_n 2, 1) := by decide +kernel
theorem d_S_isLive_3 : decode b_S_isLive 3 = .ok (.bipush 16, 2) := by decide +kernel
theorem d_S_isLive_5 : decode b_S_isLive 5 = .ok (.if_icmp .ge (21), 3) := by decide +kernel
theorem d_S_isLive_8 : decode b_S_isLive 8 = .ok (.aload_n 0, 1) := by decide +kernel
theorem d_S_isLive_9 : decode b_S_isLive 9 = .ok (.getfield 18, 3) := by decide +kernel
theorem d_S_isLive_12 : decode b_S_isLive 12 = .ok (.iload_n 2, 1) := by decide +kernel
theorem d_S_isLive_13 : decode b_S_isLive 13 = .ok (.iaload, 1) := by decide +kernel
theorem d_S_isLive_14 : decode b_S_isLive 14 = .ok (.iload_n 1, 1) := by decide +kernel
theorem d_S_isLive_15 : decode b_S_isLive 15 = .ok (.if_icmp .ne (5), 3) := by decide +kernel
theorem d_S_isLive_18 : decode b_S_isLive 18 = .ok (.iconst 1, 1) := by decide +kernel
theorem d_S_isLive_19 : decode b_S_isLive 19 = .ok (.ireturn, 1) := by decide +kernel
theorem d_S_isLive_20 : decode b_S_isLive 20 = .ok (.iinc 2 1, 3) := by decide +kernel
theorem d_S_isLive_23 : decode b_S_isLive 23 = .ok (.goto (-21), 3) := by decide +kernel
theorem d_S_isLive_26 : decode b_S_isLive 26 = .ok (.iconst 0, 1) := by decide +kernel
theorem d_S_isLive_27 : decode b_S_isLive 27 = .ok (.ireturn, 1) := by decide +kernel
theorem d_S_livePageCount_0 : decode b_S_livePageCount 0 = .ok (.iconst 0, 1) := by decide +kernel
theorem d_S_livePageCount_1 : decode b_S_livePageCount 1 = .ok (.istore_n 1, 1) := by decide +kernel
theorem d_S_livePageCount_2 : decode b_S_livePageCount 2 = .ok (.iconst 0, 1) := by decide +kernel
theorem d_S_livePageCount_3 : decode b_S_livePageCount 3 = .ok (.istore_n 2, 1) := by decide +kernel
theorem d_S_livePageCount_4 : decode b_S_livePageCount 4 = .ok (.iload_n 2, 1) := by decide +kernel
theorem d_S_livePageCount_5 : decode b_S_livePageCount 5 = .ok (.bipush 32, 2) := by decide +kernel
theorem d_S_livePageCount_7 : decode b_S_livePageCount 7 = .ok (.if_icmp .ge (20), 3) := by decide +kernel
theorem d_S_livePageCount_10 : decode b_S_livePageCount 10 = .ok (.aload_n 0, 1) := by decide +kernel
theorem d_S_livePageCount_11 : decode b_S_livePageCount 11 = .ok (.iload_n 2, 1) := by decide +kernel
theorem d_S_livePageCount_12 : decode b_S_livePageCount 12 = .ok (.invokevirtual 39, 3) := by decide +kernel
theorem d_S_livePageCount_15 : decode b_S_livePageCount 15 = .ok (.ifCond .eq (6), 3) := by decide +kernel
theorem d_S_livePageCount_18 : decode b_S_livePageCount 18 = .ok (.iinc 1 1, 3) := by decide +kernel
theorem d_S_livePageCount_21 : decode b_S_livePageCount 21 = .ok (.iinc 2 1, 3) := by decide +kernel
theorem d_S_livePageCount_24 : decode b_S_livePageCount 24 = .ok (.goto (-20), 3) := by decide +kernel
