theorem d_M_mount_154 : decode b_M_mount 154 = .ok (.iaload, 1) := by decide +kernel
theorem d_M_mount_155 : decode b_M_mount 155 = .ok (.iastore, 1) := by decide +kernel
theorem d_M_mount_156 : decode b_M_mount 156 = .ok (.iinc 5 1, 3) := by decide +kernel
theorem d_M_mount_159 : decode b_M_mount 159 = .ok (.goto (-43), 3) := by decide +kernel
theorem d_M_mount_162 : decode b_M_mount 162 = .ok (.aload_n 0, 1) := by decide +kernel
theorem d_M_mount_163 : decode b_M_mount 163 = .ok (.dup, 1) := by decide +kernel
theorem d_M_mount_164 : decode b_M_mount 164 = .ok (.getfield 52, 3) := by decide +kernel
theorem d_M_mount_167 : decode b_M_mount 167 = .ok (.aload_n 0, 1) := by decide +kernel
theorem d_M_mount_168 : decode b_M_mount 168 = .ok (.getfield 37, 3) := by decide +kernel
theorem d_M_mount_171 : decode b_M_mount 171 = .ok (.iload_n 3, 1) := by decide +kernel
theorem d_M_mount_172 : decode b_M_mount 172 = .ok (.iaload, 1) := by decide +kernel
theorem d_M_mount_173 : decode b_M_mount 173 = .ok (.iadd, 1) := by decide +kernel
theorem d_M_mount_174 : decode b_M_mount 174 = .ok (.putfield 52, 3) := by decide +kernel
theorem d_M_mount_177 : decode b_M_mount 177 = .ok (.aload_n 0, 1) := by decide +kernel
theorem d_M_mount_178 : decode b_M_mount 178 = .ok (.getfield 37, 3) := by decide +kernel
theorem d_M_mount_181 : decode b_M_mount 181 = .ok (.iload_n 3, 1) := by decide +kernel
theorem d_M_mount_182 : decode b_M_mount 182 = .ok (.iaload, 1) := by decide +kernel
theorem d_M_mount_183 : decode b_M_mount 183 = .ok (.iconst 3, 1) := by decide +kernel
theorem d_M_mount_184 : decode b_M_mount 184 = .ok (.if_icmp .ne (7), 3) := by decide +kernel
theorem d_M_mount_187 : decode b_M_mount 187 = .ok (.iconst 1, 1) := by decide +kernel
theorem d_M_mount_188 : decode b_M_mount 188 = .ok (.goto (4), 3) := by decide +kernel
theorem d_M_mount_191 : decode b_M_mount 191 = .ok (.iconst 0, 1) := by decide +kernel
theorem d_M_mount_192 : decode b_M_mount 192 = .ok (.istore_n 2, 1) := by decide +kernel
theorem d_M_mount_193 : decode b_M_mount 193 = .ok (.iinc 3 1, 3) := by decide +kernel
theorem d_M_mount_196 : decode b_M_mount 196 = .ok (.goto (-134), 3) := by decide +kernel
theorem d_M_mount_199 : decode b_M_mount 199 = .ok (.aload_n 0, 1) := by decide +kernel
theorem d_M_mount_200 : decode b_M_mount 200 = .ok (.invokevirtual 149, 3) := by decide +kernel
theorem d_M_mount_203 : decode b_M_mount 203 = .ok (.ireturn, 1) := by decide +kernel
theorem d_M_wearOf_0 : decode b_M_wearOf 0 = .ok (.aload_n 0, 1) := by decide +kernel
theorem d_M_wearOf_1 : decode b_M_wearOf 1 = .ok (.iconst 1, 1) := by decide +kernel
theorem d_M_wearOf_2 : decode b_M_wearOf 2 = .ok (.iload_n 1, 1) := by decide +kernel
theorem d_M_wearOf_3 : decode b_M_wearOf 3 = .ok (.iconst 0, 1) := by decide +kernel
theorem d_M_wearOf_4 : decode b_M_wearOf 4 = .ok (.bipush 7, 2) := by decide +kernel
theorem d_M_wearOf_6 : decode b_M_wearOf 6 = .ok (.invokestatic 130, 3) := by decide +kernel
theorem d_M_wearOf_9 : decode b_M_wearOf 9 = .ok (.ifCond .ne (7), 3) := by decide +kernel
theorem d_M_wearOf_12 : decode b_M_wearOf 12 = .ok (.iconst 1, 1) := by decide +kernel
theorem d_M_wearOf_13 : decode b_M_wearOf 13 = .ok (.goto (4), 3) := by decide +kernel
theorem d_M_wearOf_16 : decode b_M_wearOf 16 = .ok (.iconst 0, 1) := by decide +kernel
theorem d_M_wearOf_17 : decode b_M_wearOf 17 = .ok (.invokevirtual 137, 3) := by decide +kernel
theorem d_M_wearOf_20 : decode b_M_wearOf 20 = .ok (.ifCond .eq (7), 3) := by decide +kernel
theorem d_M_wearOf_23 : decode b_M_wearOf 23 = .ok (.iconst 0, 1) := by decide +kernel
theorem d_M_wearOf_24 : decode b_M_wearOf 24 = .ok (.goto (9), 3) := by decide +kernel
theorem d_M_wearOf_27 : decode b_M_wearOf 27 = .ok (.aload_n 0, 1) := by decide +kernel
theorem d_M_wearOf_28 : decode b_M_wearOf 28 = .ok (.getfield 13, 3) := by decide +kernel
theorem d_M_wearOf_31 : decode b_M_wearOf 31 = .ok (.iload_n 1, 1) := by decide +kernel
theorem d_M_wearOf_32 : decode b_M_wearOf 32 = .ok (.iaload, 1) := by decide +kernel
theorem d_M_wearOf_33 : decode b_M_wearOf 33 = .ok (.ireturn, 1) := by decide +kernel
theorem d_M_failBlock_0 : decode b_M_failBlock 0 = .ok (.aload_n 0, 1) := by decide +kernel
theorem d_M_failBlock_1 : decode b_M_failBlock 1 = .ok (.iconst 1, 1) := by decide +kernel
theorem d_M_failBlock_2 : decode b_M_failBlock 2 = .ok (.iload_n 1, 1) := by decide +kernel
theorem d_M_failBlock_3 : decode b_M_failBlock 3 = .ok (.iconst 0, 1) := by decide +kernel
theorem d_M_failBlock_4 : decode b_M_failBlock 4 = .ok (.bipush 7, 2) := by decide +kernel
theorem d_M_failBlock_6 : decode b_M_failBlock 6 = .ok (.invokestatic 130, 3) := by decide +kernel
theorem d_M_failBlock_9 : decode b_M_failBlock 9 = .ok (.ifCond .ne (7), 3) := by decide +kernel
theorem d_M_failBlock_12 : decode b_M_failBlock 12 = .ok (.iconst 1, 1) := by decide +kernel
theorem d_M_failBlock_13 : decode b_M_failBlock 13 = .ok (.goto (4), 3) := by decide +kernel
theorem d_M_failBlock_16 : decode b_M_failBlock 16 = .ok (.iconst 0, 1) := by decide +kernel
theorem d_M_failBlock_17 : decode b_M_failBlock 17 = .ok (.invokevirtual 137, 3) := by decide +kernel
theorem d_M_failBlock_20 : decode b_M_failBlock 20 = .ok (.ifCond .ne (10), 3) := by decide +kernel
theorem d_M_failBlock_23 : decode b_M_failBlock 23 = .ok (.aload_n 0, 1) := by decide +kernel
theorem d_M_failBlock_24 : decode b_M_failBlock 24 = .ok (.getfield 16, 3) := by decide +kernel
theorem d_M_failBlock_27 : decode b_M_failBlock 27 = .ok (.iload_n 1, 1) := by decide +kernel
theorem d_M_failBlock_28 : decode b_M_failBlock 28 = .ok (.iconst 1, 1) := by decide +kernel
theorem d_M_failBlock_29 : decode b_M_failBlock 29 = .ok (.bastore, 1) := by decide +kernel
theorem d_M_failBlock_30 : decode b_M_failBlock 30 = .ok (.return_, 1) := by decide +kernel
theorem d_M_poke_0 : decode b_M_poke 0 = .ok (.aload_n 0, 1) := by decide +kernel
theorem d_M_poke_1 : decode b_M_poke 1 = .ok (.iconst 1, 1) := by decide +kernel
theorem d_M_poke_2 : decode b_M_poke 2 = .ok (.iload_n 1, 1) := by decide +kernel
theorem d_M_poke_3 : decode b_M_poke 3 = .ok (.iconst 0, 1) := by decide +kernel
theorem d_M_poke_4 : decode b_M_poke 4 = .ok (.bipush 31, 2) := by decide +kernel
theorem d_M_poke_6 : decode b_M_poke 6 = .ok (.invokestatic 130, 3) := by decide +kernel
theorem d_M_poke_9 : decode b_M_poke 9 = .ok (.ifCond .eq (13), 3) := by decide +kernel
theorem d_M_poke_12 : decode b_M_poke 12 = .ok (.iload_n 2, 1) := by decide +kernel
theorem d_M_poke_13 : decode b_M_poke 13 = .ok (.iconst 0, 1) := by decide +kernel
theorem d_M_poke_14 : decode b_M_poke 14 = .ok (.bipush 15, 2) := by decide +kernel
theorem d_M_poke_16 : decode b_M_poke 16 = .ok (.invokestatic 130, 3) := by decide +kernel
theorem d_M_poke_19 : decode b_M_poke 19 = .ok (.ifCond .ne (7), 3) := by decide +kernel
theorem d_M_poke_22 : decode b_M_poke 22 = .ok (.iconst 1, 1) := by decide +kernel
theorem d_M_poke_23 : decode b_M_poke 23 = .ok (.goto (4), 3) := by decide +kernel
theorem d_M_poke_26 : decode b_M_poke 26 = .ok (.iconst 0, 1) := by decide +kernel
theorem d_M_poke_27 : decode b_M_poke 27 = .ok (.invokevirtual 137, 3) := by decide +kernel
theorem d_M_poke_30 : decode b_M_poke 30 = .ok (.ifCond .ne (18), 3) := by decide +kernel
theorem d_M_poke_33 : decode b_M_poke 33 = .ok (.aload_n 0, 1) := by decide +kernel
theorem d_M_poke_34 : decode b_M_poke 34 = .ok (.getfield 7, 3) := by decide +kernel
theorem d_M_poke_37 : decode b_M_poke 37 = .ok (.bipush 16, 2) := by decide +kernel
theorem d_M_poke_39 : decode b_M_poke 39 = .ok (.iload_n 1, 1) := by decide +kernel
theorem d_M_poke_40 : decode b_M_poke 40 = .ok (.imul, 1) := by decide +kernel
theorem d_M_poke_41 : decode b_M_poke 41 = .ok (.iload_n 2, 1) := by decide +kernel
theorem d_M_poke_42 : decode b_M_poke 42 = .ok (.iadd, 1) := by decide +kernel
theorem d_M_poke_43 : decode b_M_poke 43 = .ok (.dup2, 1) := by decide +kernel
theorem d_M_poke_44 : decode b_M_poke 44 = .ok (.iaload, 1) := by decide +kernel
theorem d_M_poke_45 : decode b_M_poke 45 = .ok (.iload_n 3, 1) := by decide +kernel
theorem d_M_poke_46 : decode b_M_poke 46 = .ok (.ixor, 1) := by decide +kernel
theorem d_M_poke_47 : decode b_M_poke 47 = .ok (.iastore, 1) := by decide +kernel
theorem d_M_poke_48 : decode b_M_poke 48 = .ok (.return_, 1) := by decide +kernel
theorem d_M_word_0 : decode b_M_word 0 = .ok (.aload_n 0, 1) := by decide +kernel
theorem d_M_word_1 : decode b_M_word 1 = .ok (.iconst 1, 1) := by decide +kernel
theorem d_M_word_2 : decode b_M_word 2 = .ok (.iload_n 1, 1) := by decide +kernel
theorem d_M_word_3 : decode b_M_word 3 = .ok (.iconst 0, 1) := by decide +kernel
theorem d_M_word_4 : decode b_M_word 4 = .ok (.bipush 31, 2) := by decide +kernel
theorem d_M_word_6 : decode b_M_word 6 = .ok (.invokestatic 130, 3) := by decide +kernel
theorem d_M_word_9 : decode b_M_word 9 = .ok (.ifCond .eq (13), 3) := by decide +kernel
theorem d_M_word_12 : decode b_M_word 12 = .ok (.iload_n 2, 1) := by decide +kernel
theorem d_M_word_13 : decode b_M_word 13 = .ok (.iconst 0, 1) := by decide +kernel
theorem d_M_word_14 : decode b_M_word 14 = .ok (.bipush 15, 2) := by decide +kernel
theorem d_M_word_16 : decode b_M_word 16 = .ok (.invokestatic 130, 3) := by decide +kernel
theorem d_M_word_19 : decode b_M_word 19 = .ok (.ifCond .ne (7), 3) := by decide +kernel
theorem d_M_word_22 : decode b_M_word 22 = .ok (.iconst 1, 1) := by decide +kernel
theorem d_M_word_23 : decode b_M_word 23 = .ok (.goto (4), 3) := by decide +kernel
theorem d_M_word_26 : decode b_M_word 26 = .ok (.iconst 0, 1) := by decide +kernel
theorem d_M_word_27 : decode b_M_word 27 = .ok (.invokevirtual 137, 3) := by decide +kernel
theorem d_M_word_30 : decode b_M_word 30 = .ok (.ifCond .eq (7), 3) := by decide +kernel
theorem d_M_word_33 : decode b_M_word 33 = .ok (.iconst 0, 1) := by decide +kernel
theorem d_M_word_34 : decode b_M_word 34 = .ok (.goto (14), 3) := by decide +kernel
theorem d_M_word_37 : decode b_M_word 37 = .ok (.aload_n 0, 1) := by decide +kernel
theorem d_M_word_38 : decode b_M_word 38 = .ok (.getfield 7, 3) := by decide +kernel
theorem d_M_word_41 : decode b_M_word 41 = .ok (.bipush 16, 2) := by decide +kernel
theorem d_M_word_43 : decode b_M_word 43 = .ok (.iload_n 1, 1) := by decide +kernel
theorem d_M_word_44 : decode b_M_word 44 = .ok (.imul, 1) := by decide +kernel
theorem d_M_word_45 : decode b_M_word 45 = .ok (.iload_n 2, 1) := by decide +kernel
theorem d_M_word_46 : decode b_M_word 46 = .ok (.iadd, 1) := by decide +kernel
theorem d_M_word_47 : decode b_M_word 47 = .ok (.iaload, 1) := by decide +kernel
theorem d_M_word_48 : decode b_M_word 48 = .ok (.ireturn, 1) := by decide +kernel
theorem d_M_state_0 : decode b_M_state 0 = .ok (.aload_n 0, 1) := by decide +kernel
theorem d_M_state_1 : decode b_M_state 1 = .ok (.iconst 0, 1) := by decide +kernel
theorem d_M_state_2 : decode b_M_state 2 = .ok (.putfield 49, 3) := by decide +kernel
theorem d_M_state_5 : decode b_M_state 5 = .ok (.iload_n 1, 1) := by decide +kernel
theorem d_M_state_6 : decode b_M_state 6 = .ok (.tableswitch 103 0 8 #[50, 55, 60, 65, 70, 75, 80, 85, 90], 50) := by decide +kernel
theorem d_M_state_56 : decode b_M_state 56 = .ok (.aload_n 0, 1) := by decide +kernel
theorem d_M_state_57 : decode b_M_state 57 = .ok (.getfield 52, 3) := by decide +kernel
theorem d_M_state_60 : decode b_M_state 60 = .ok (.ireturn, 1) := by decide +kernel
theorem d_M_state_61 : decode b_M_state 61 = .ok (.aload_n 0, 1) := by decide +kernel
theorem d_M_state_62 : decode b_M_state 62 = .ok (.invokevirtual 156, 3) := by decide +kernel
theorem d_M_state_65 : decode b_M_state 65 = .ok (.ireturn, 1) := by decide +kernel
theorem d_M_state_66 : decode b_M_state 66 = .ok (.aload_n 0, 1) := by decide +kernel
theorem d_M_state_67 : decode b_M_state 67 = .ok (.invokevirtual 149, 3) := by decide +kernel
theorem d_M_state_70 : decode b_M_state 70 = .ok (.ireturn, 1) := by decide +kernel
theorem d_M_state_71 : decode b_M_state 71 = .ok (.aload_n 0, 1) := by decide +kernel
theorem d_M_state_72 : decode b_M_state 72 = .ok (.invokevirtual 198, 3) := by decide +kernel
theorem d_M_state_75 : decode b_M_state 75 = .ok (.ireturn, 1) := by decide +kernel
theorem d_M_state_76 : decode b_M_state 76 = .ok (.aload_n 0, 1) := by decide +kernel
theorem d_M_state_77 : decode b_M_state 77 = .ok (.getfield 58, 3) := by decide +kernel
theorem d_M_state_80 : decode b_M_state 80 = .ok (.ireturn, 1) := by decide +kernel
theorem d_M_state_81 : decode b_M_state 81 = .ok (.aload_n 0, 1) := by decide +kernel
theorem d_M_state_82 : decode b_M_state 82 = .ok (.getfield 55, 3) := by decide +kernel
theorem d_M_state_85 : decode b_M_state 85 = .ok (.ireturn, 1) := by decide +kernel
theorem d_M_state_86 : decode b_M_state 86 = .ok (.aload_n 0, 1) := by decide +kernel
theorem d_M_state_87 : decode b_M_state 87 = .ok (.getfield 40, 3) := by decide +kernel
theorem d_M_state_90 : decode b_M_state 90 = .ok (.ireturn, 1) := by decide +kernel
theorem d_M_state_91 : decode b_M_state 91 = .ok (.aload_n 0, 1) := by decide +kernel
theorem d_M_state_92 : decode b_M_state 92 = .ok (.invokevirtual 201, 3) := by decide +kernel
theorem d_M_state_95 : decode b_M_state 95 = .ok (.ireturn, 1) := by decide +kernel
theorem d_M_state_96 : decode b_M_state 96 = .ok (.aload_n 0, 1) := by decide +kernel
theorem d_M_state_97 : decode b_M_state 97 = .ok (.getfield 23, 3) := by decide +kernel
theorem d_M_state_100 : decode b_M_state 100 = .ok (.ifCond .eq (7), 3) := by decide +kernel
theorem d_M_state_103 : decode b_M_state 103 = .ok (.iconst 1, 1) := by decide +kernel
theorem d_M_state_104 : decode b_M_state 104 = .ok (.goto (4), 3) := by decide +kernel
theorem d_M_state_107 : decode b_M_state 107 = .ok (.iconst 0, 1) := by decide +kernel
theorem d_M_state_108 : decode b_M_state 108 = .ok (.ireturn, 1) := by decide +kernel
theorem d_M_state_109 : decode b_M_state 109 = .ok (.iconst (-1), 1) := by decide +kernel
theorem d_M_state_110 : decode b_M_state 110 = .ok (.ireturn, 1) := by decide +kernel
theorem d_C_init_0 : decode b_C_init 0 = .ok (.aload_n 0, 1) := by decide +kernel
theorem d_C_init_1 : decode b_C_init 1 = .ok (.invokespecial 3, 3) := by decide +kernel
theorem d_C_init_4 : decode b_C_init 4 = .ok (.aload_n 0, 1) := by decide +kernel
theorem d_C_init_5 : decode b_C_init 5 = .ok (.sipush 512, 3) := by decide +kernel
theorem d_C_init_8 : decode b_C_init 8 = .ok (.newarray .int, 2) := by decide +kernel
theorem d_C_init_10 : decode b_C_init 10 = .ok (.putfield 9, 3) := by decide +kernel
theorem d_C_init_13 : decode b_C_init 13 = .ok (.aload_n 0, 1) := by decide +kernel
theorem d_C_init_14 : decode b_C_init 14 = .ok (.bipush 8, 2) := by decide +kernel
theorem d_C_init_16 : decode b_C_init 16 = .ok (.newarray .int, 2) := by decide +kernel
theorem d_C_init_18 : decode b_C_init 18 = .ok (.putfield 15, 3) := by decide +kernel
theorem d_C_init_21 : decode b_C_init 21 = .ok (.aload_n 0, 1) := by decide +kernel
theorem d_C_init_22 : decode b_C_init 22 = .ok (.bipush 8, 2) := by decide +kernel
theorem d_C_init_24 : decode b_C_init 24 = .ok (.newarray .boolean, 2) := by decide +kernel
theorem d_C_init_26 : decode b_C_init 26 = .ok (.putfield 18, 3) := by decide +kernel
theorem d_C_init_29 : decode b_C_init 29 = .ok (.aload_n 0, 1) := by decide +kernel
theorem d_C_init_30 : decode b_C_init 30 = .ok (.iconst 1, 1) := by decide +kernel
theorem d_C_init_31 : decode b_C_init 31 = .ok (.putfield 22, 3) := by decide +kernel
theorem d_C_init_34 : decode b_C_init 34 = .ok (.aload_n 0, 1) := by decide +kernel
theorem d_C_init_35 : decode b_C_init 35 = .ok (.iconst (-1), 1) := by decide +kernel
theorem d_C_init_36 : decode b_C_init 36 = .ok (.putfield 26, 3) := by decide +kernel
theorem d_C_init_39 : decode b_C_init 39 = .ok (.iconst 0, 1) := by decide +kernel
theorem d_C_init_40 : decode b_C_init 40 = .ok (.istore_n 1, 1) := by decide +kernel
theorem d_C_init_41 : decode b_C_init 41 = .ok (.iload_n 1, 1) := by decide +kernel
theorem d_C_init_42 : decode b_C_init 42 = .ok (.aload_n 0, 1) := by decide +kernel
theorem d_C_init_43 : decode b_C_init 43 = .ok (.getfield 9, 3) := by decide +kernel
theorem d_C_init_46 : decode b_C_init 46 = .ok (.arraylength, 1) := by decide +kernel
theorem d_C_init_47 : decode b_C_init 47 = .ok (.if_icmp .ge (16), 3) := by decide +kernel
theorem d_C_init_50 : decode b_C_init 50 = .ok (.aload_n 0, 1) := by decide +kernel
theorem d_C_init_51 : decode b_C_init 51 = .ok (.getfield 9, 3) := by decide +kernel
theorem d_C_init_54 : decode b_C_init 54 = .ok (.iload_n 1, 1) := by decide +kernel
theorem d_C_init_55 : decode b_C_init 55 = .ok (.iconst (-1), 1) := by decide +kernel
theorem d_C_init_56 : decode b_C_init 56 = .ok (.iastore, 1) := by decide +kernel
theorem d_C_init_57 : decode b_C_init 57 = .ok (.iinc 1 1, 3) := by decide +kernel
theorem d_C_init_60 : decode b_C_init 60 = .ok (.goto (-19), 3) := by decide +kernel
theorem d_C_init_63 : decode b_C_init 63 = .ok (.return_, 1) := by decide +kernel
theorem d_G_init_0 : decode b_G_init 0 = .ok (.aload_n 0, 1) := by decide +kernel
theorem d_G_init_1 : decode b_G_init 1 = .ok (.invokespecial 3, 3) := by decide +kernel
theorem d_G_init_4 : decode b_G_init 4 = .ok (.aload_n 0, 1) := by decide +kernel
theorem d_G_init_5 : decode b_G_init 5 = .ok (.sipush 192, 3) := by decide +kernel
theorem d_G_init_8 : decode b_G_init 8 = .ok (.newarray .int, 2) := by decide +kernel
theorem d_G_init_10 : decode b_G_init 10 = .ok (.putfield 9, 3) := by decide +kernel
theorem d_G_init_13 : decode b_G_init 13 = .ok (.aload_n 0, 1) := by decide +kernel
theorem d_G_init_14 : decode b_G_init 14 = .ok (.bipush 48, 2) := by decide +kernel
theorem d_G_init_16 : decode b_G_init 16 = .ok (.newarray .int, 2) := by decide +kernel
theorem d_G_init_18 : decode b_G_init 18 = .ok (.putfield 15, 3) := by decide +kernel
theorem d_G_init_21 : decode b_G_init 21 = .ok (.aload_n 0, 1) := by decide +kernel
theorem d_G_init_22 : decode b_G_init 22 = .ok (.bipush 48, 2) := by decide +kernel
theorem d_G_init_24 : decode b_G_init 24 = .ok (.newarray .int, 2) := by decide +kernel
theorem d_G_init_26 : decode b_G_init 26 = .ok (.putfield 18, 3) := by decide +kernel
theorem d_G_init_29 : decode b_G_init 29 = .ok (.aload_n 0, 1) := by decide +kernel
theorem d_G_init_30 : decode b_G_init 30 = .ok (.iconst 0, 1) := by decide +kernel
theorem d_G_init_31 : decode b_G_init 31 = .ok (.putfield 21, 3) := by decide +kernel
theorem d_G_init_34 : decode b_G_init 34 = .ok (.aload_n 0, 1) := by decide +kernel
theorem d_G_init_35 : decode b_G_init 35 = .ok (.iconst 0, 1) := by decide +kernel
theorem d_G_init_36 : decode b_G_init 36 = .ok (.putfield 25, 3) := by decide +kernel
theorem d_G_init_39 : decode b_G_init 39 = .ok (.return_, 1) := by decide +kernel
theorem d_N_init_0 : decode b_N_init 0 = .ok (.aload_n 0, 1) := by decide +kernel
theorem d_N_init_1 : decode b_N_init 1 = .ok (.invokespecial 1, 3) := by decide +kernel
theorem d_N_init_4 : decode b_N_init 4 = .ok (.aload_n 0, 1) := by decide +kernel
theorem d_N_init_5 : decode b_N_init 5 = .ok (.bipush 32, 2) := by decide +kernel
theorem d_N_init_7 : decode b_N_init 7 = .ok (.newarray .byte, 2) := by decide +kernel
theorem d_N_init_9 : decode b_N_init 9 = .ok (.putfield 9, 3) := by decide +kernel
theorem d_N_init_12 : decode b_N_init 12 = .ok (.aload_n 0, 1) := by decide +kernel
theorem d_N_init_13 : decode b_N_init 13 = .ok (.iconst 0, 1) := by decide +kernel
theorem d_N_init_14 : decode b_N_init 14 = .ok (.putfield 13, 3) := by decide +kernel
theorem d_N_init_17 : decode b_N_init 17 = .ok (.return_, 1) := by decide +kernel
theorem d_S_init_0 : decode b_S_init 0 = .ok (.aload_n 0, 1) := by decide +kernel
theorem d_S_init_1 : decode b_S_init 1 = .ok (.invokespecial 3, 3) := by decide +kernel
theorem d_S_init_4 : decode b_S_init 4 = .ok (.aload_n 0, 1) := by decide +kernel
theorem d_S_init_5 : decode b_S_init 5 = .ok (.new 9, 3) := by decide +kernel
theorem d_S_init_8 : decode b_S_init 8 = .ok (.dup, 1) := by decide +kernel
theorem d_S_init_9 : decode b_S_init 9 = .ok (.invokespecial 11, 3) := by decide +kernel
theorem d_S_init_12 : decode b_S_init 12 = .ok (.putfield 12, 3) := by decide +kernel
theorem d_S_init_15 : decode b_S_init 15 = .ok (.aload_n 0, 1) := by decide +kernel
theorem d_S_init_16 : decode b_S_init 16 = .ok (.bipush 16, 2) := by decide +kernel
theorem d_S_init_18 : decode b_S_init 18 = .ok (.newarray .int, 2) := by decide +kernel
theorem d_S_init_20 : decode b_S_init 20 = .ok (.putfield 18, 3) := by decide +kernel
theorem d_S_init_23 : decode b_S_init 23 = .ok (.aload_n 0, 1) := by decide +kernel
theorem d_S_init_24 : decode b_S_init 24 = .ok (.bipush 16, 2) := by decide +kernel
theorem d_S_init_26 : decode b_S_init 26 = .ok (.newarray .int, 2) := by decide +kernel
theorem d_S_init_28 : decode b_S_init 28 = .ok (.putfield 22, 3) := by decide +kernel
theorem d_S_init_31 : decode b_S_init 31 = .ok (.aload_n 0, 1) := by decide +kernel
theorem d_S_init_32 : decode b_S_init 32 = .ok (.iconst (-1), 1) := by decide +kernel
theorem d_S_init_33 : decode b_S_init 33 = .ok (.putfield 25, 3) := by decide +kernel
theorem d_S_init_36 : decode b_S_init 36 = .ok (.aload_n 0, 1) := by decide +kernel
theorem d_S_init_37 : decode b_S_init 37 = .ok (.iconst 0, 1) := by decide +kernel
theorem d_S_init_38 : decode b_S_init 38 = .ok (.putfield 29, 3) := by decide +kernel
theorem d_S_init_41 : decode b_S_init 41 = .ok (.aload_n 0, 1) := by decide +kernel
theorem d_S_init_42 : decode b_S_init 42 = .ok (.iconst 0, 1) := by decide +kernel
theorem d_S_init_43 : decode b_S_init 43 = .ok (.putfield 32, 3) := by decide +kernel
theorem d_S_init_46 : decode b_S_init 46 = .ok (.aload_n 0, 1) := by decide +kernel
theorem d_S_init_47 : decode b_S_init 47 = .ok (.iconst 0, 1) := by decide +kernel
theorem d_S_init_48 : decode b_S_init 48 = .ok (.putfield 35, 3) := by decide +kernel
theorem d_S_init_51 : decode b_S_init 51 = .ok (.iconst 0, 1) := by decide +kernel
theorem d_S_init_52 : decode b_S_init 52 = .ok (.istore_n 1, 1) := by decide +kernel
theorem d_S_init_53 : decode b_S_init 53 = .ok (.iload_n 1, 1) := by decide +kernel
theorem d_S_init_54 : decode b_S_init 54 = .ok (.bipush 16, 2) := by decide +kernel
theorem d_S_init_56 : decode b_S_init 56 = .ok (.if_icmp .ge (16), 3) := by decide +kernel
theorem d_S_init_59 : decode b_S_init 59 = .ok (.aload_n 0, 1) := by decide +kernel
theorem d_S_init_60 : decode b_S_init 60 = .ok (.getfield 18, 3) := by decide +kernel
theorem d_S_init_63 : decode b_S_init 63 = .ok (.iload_n 1, 1) := by decide +kernel
theorem d_S_init_64 : decode b_S_init 64 = .ok (.iconst (-1), 1) := by decide +kernel
theorem d_S_init_65 : decode b_S_init 65 = .ok (.iastore, 1) := by decide +kernel
theorem d_S_init_66 : decode b_S_init 66 = .ok (.iinc 1 1, 3) := by decide +kernel
theorem d_S_init_69 : decode b_S_init 69 = .ok (.goto (-16), 3) := by decide +kernel
theorem d_S_init_72 : decode b_S_init 72 = .ok (.return_, 1) := by decide +kernel
theorem d_S_chip_0 : decode b_S_chip 0 = .ok (.aload_n 0, 1) := by decide +kernel
theorem d_S_chip_1 : decode b_S_chip 1 = .ok (.getfield 12, 3) := by decide +kernel
theorem d_S_chip_4 : decode b_S_chip 4 = .ok (.areturn, 1) := by decide +kernel
theorem d_R_init_0 : decode b_R_init 0 = .ok (.aload_n 0, 1) := by decide +kernel
theorem d_R_init_1 : decode b_R_init 1 = .ok (.invokespecial 3, 3) := by decide +kernel
theorem d_R_init_4 : decode b_R_init 4 = .ok (.aload_n 0, 1) := by decide +kernel
theorem d_R_init_5 : decode b_R_init 5 = .ok (.new 9, 3) := by decide +kernel
theorem d_R_init_8 : decode b_R_init 8 = .ok (.dup, 1) := by decide +kernel
theorem d_R_init_9 : decode b_R_init 9 = .ok (.invokespecial 11, 3) := by decide +kernel
theorem d_R_init_12 : decode b_R_init 12 = .ok (.putfield 12, 3) := by decide +kernel
theorem d_R_init_15 : decode b_R_init 15 = .ok (.aload_n 0, 1) := by decide +kernel
theorem d_R_init_16 : decode b_R_init 16 = .ok (.aload_n 0, 1) := by decide +kernel
theorem d_R_init_17 : decode b_R_init 17 = .ok (.getfield 12, 3) := by decide +kernel
theorem d_R_init_20 : decode b_R_init 20 = .ok (.invokevirtual 16, 3) := by decide +kernel
theorem d_R_init_23 : decode b_R_init 23 = .ok (.putfield 20, 3) := by decide +kernel
theorem d_R_init_26 : decode b_R_init 26 = .ok (.aload_n 0, 1) := by decide +kernel
theorem d_R_init_27 : decode b_R_init 27 = .ok (.new 23, 3) := by decide +kernel
theorem d_R_init_30 : decode b_R_init 30 = .ok (.dup, 1) := by decide +kernel
theorem d_R_init_31 : decode b_R_init 31 = .ok (.invokespecial 25, 3) := by decide +kernel
theorem d_R_init_34 : decode b_R_init 34 = .ok (.putfield 26, 3) := by decide +kernel
theorem d_R_init_37 : decode b_R_init 37 = .ok (.aload_n 0, 1) := by decide +kernel
theorem d_R_init_38 : decode b_R_init 38 = .ok (.new 30, 3) := by decide +kernel
theorem d_R_init_41 : decode b_R_init 41 = .ok (.dup, 1) := by decide +kernel
theorem d_R_init_42 : decode b_R_init 42 = .ok (.invokespecial 32, 3) := by decide +kernel
theorem d_R_init_45 : decode b_R_init 45 = .ok (.putfield 33, 3) := by decide +kernel
theorem d_R_init_48 : decode b_R_init 48 = .ok (.aload_n 0, 1) := by decide +kernel
theorem d_R_init_49 : decode b_R_init 49 = .ok (.bipush 40, 2) := by decide +kernel
theorem d_R_init_51 : decode b_R_init 51 = .ok (.newarray .boolean, 2) := by decide +kernel
theorem d_R_init_53 : decode b_R_init 53 = .ok (.putfield 37, 3) := by decide +kernel
theorem d_R_init_56 : decode b_R_init 56 = .ok (.aload_n 0, 1) := by decide +kernel
theorem d_R_init_57 : decode b_R_init 57 = .ok (.iconst 0, 1) := by decide +kernel
theorem d_R_init_58 : decode b_R_init 58 = .ok (.putfield 41, 3) := by decide +kernel
theorem d_R_init_61 : decode b_R_init 61 = .ok (.aload_n 0, 1) := by decide +kernel
theorem d_R_init_62 : decode b_R_init 62 = .ok (.iconst 0, 1) := by decide +kernel
theorem d_R_init_63 : decode b_R_init 63 = .ok (.putfield 45, 3) := by decide +kernel
theorem d_R_init_66 : decode b_R_init 66 = .ok (.return_, 1) := by decide +kernel
theorem d_M_init_0 : decode b_M_init 0 = .ok (.aload_n 0, 1) := by decide +kernel
theorem d_M_init_1 : decode b_M_init 1 = .ok (.invokespecial 1, 3) := by decide +kernel
theorem d_M_init_4 : decode b_M_init 4 = .ok (.aload_n 0, 1) := by decide +kernel
theorem d_M_init_5 : decode b_M_init 5 = .ok (.sipush 512, 3) := by decide +kernel
theorem d_M_init_8 : decode b_M_init 8 = .ok (.newarray .int, 2) := by decide +kernel
theorem d_M_init_10 : decode b_M_init 10 = .ok (.putfield 7, 3) := by decide +kernel
theorem d_M_init_13 : decode b_M_init 13 = .ok (.aload_n 0, 1) := by decide +kernel
theorem d_M_init_14 : decode b_M_init 14 = .ok (.bipush 8, 2) := by decide +kernel
theorem d_M_init_16 : decode b_M_init 16 = .ok (.newarray .int, 2) := by decide +kernel
theorem d_M_init_18 : decode b_M_init 18 = .ok (.putfield 13, 3) := by decide +kernel
theorem d_M_init_21 : decode b_M_init 21 = .ok (.aload_n 0, 1) := by decide +kernel
theorem d_M_init_22 : decode b_M_init 22 = .ok (.bipush 8, 2) := by decide +kernel
theorem d_M_init_24 : decode b_M_init 24 = .ok (.newarray .boolean, 2) := by decide +kernel
theorem d_M_init_26 : decode b_M_init 26 = .ok (.putfield 16, 3) := by decide +kernel
theorem d_M_init_29 : decode b_M_init 29 = .ok (.aload_n 0, 1) := by decide +kernel
theorem d_M_init_30 : decode b_M_init 30 = .ok (.bipush 40, 2) := by decide +kernel
theorem d_M_init_32 : decode b_M_init 32 = .ok (.newarray .boolean, 2) := by decide +kernel
theorem d_M_init_34 : decode b_M_init 34 = .ok (.putfield 20, 3) := by decide +kernel
theorem d_M_init_37 : decode b_M_init 37 = .ok (.aload_n 0, 1) := by decide +kernel
theorem d_M_init_38 : decode b_M_init 38 = .ok (.iconst 1, 1) := by decide +kernel
theorem d_M_init_39 : decode b_M_init 39 = .ok (.putfield 23, 3) := by decide +kernel
theorem d_M_init_42 : decode b_M_init 42 = .ok (.aload_n 0, 1) := by decide +kernel
theorem d_M_init_43 : decode b_M_init 43 = .ok (.iconst (-1), 1) := by decide +kernel
theorem d_M_init_44 : decode b_M_init 44 = .ok (.putfield 27, 3) := by decide +kernel
theorem d_M_init_47 : decode b_M_init 47 = .ok (.aload_n 0, 1) := by decide +kernel
theorem d_M_init_48 : decode b_M_init 48 = .ok (.sipush 192, 3) := by decide +kernel
theorem d_M_init_51 : decode b_M_init 51 = .ok (.newarray .int, 2) := by decide +kernel
theorem d_M_init_53 : decode b_M_init 53 = .ok (.putfield 31, 3) := by decide +kernel
theorem d_M_init_56 : decode b_M_init 56 = .ok (.aload_n 0, 1) := by decide +kernel
theorem d_M_init_57 : decode b_M_init 57 = .ok (.bipush 16, 2) := by decide +kernel
theorem d_M_init_59 : decode b_M_init 59 = .ok (.newarray .int, 2) := by decide +kernel
theorem d_M_init_61 : decode b_M_init 61 = .ok (.putfield 34, 3) := by decide +kernel
theorem d_M_init_64 : decode b_M_init 64 = .ok (.aload_n 0, 1) := by decide +kernel
theorem d_M_init_65 : decode b_M_init 65 = .ok (.bipush 16, 2) := by decide +kernel
theorem d_M_init_67 : decode b_M_init 67 = .ok (.newarray .int, 2) := by decide +kernel
theorem d_M_init_69 : decode b_M_init 69 = .ok (.putfield 37, 3) := by decide +kernel
theorem d_M_init_72 : decode b_M_init 72 = .ok (.aload_n 0, 1) := by decide +kernel
theorem d_M_init_73 : decode b_M_init 73 = .ok (.iconst (-1), 1) := by decide +kernel
theorem d_M_init_74 : decode b_M_init 74 = .ok (.putfield 40, 3) := by decide +kernel
theorem d_M_init_77 : decode b_M_init 77 = .ok (.aload_n 0, 1) := by decide +kernel
theorem d_M_init_78 : decode b_M_init 78 = .ok (.bipush 16, 2) := by decide +kernel
theorem d_M_init_80 : decode b_M_init 80 = .ok (.newarray .int, 2) := by decide +kernel
theorem d_M_init_82 : decode b_M_init 82 = .ok (.putfield 43, 3) := by decide +kernel
theorem d_M_init_85 : decode b_M_init 85 = .ok (.iconst 0, 1) := by decide +kernel
theorem d_M_init_86 : decode b_M_init 86 = .ok (.istore_n 1, 1) := by decide +kernel
theorem d_M_init_87 : decode b_M_init 87 = .ok (.iload_n 1, 1) := by decide +kernel
theorem d_M_init_88 : decode b_M_init 88 = .ok (.sipush 512, 3) := by decide +kernel
theorem d_M_init_91 : decode b_M_init 91 = .ok (.if_icmp .ge (16), 3) := by decide +kernel
theorem d_M_init_94 : decode b_M_init 94 = .ok (.aload_n 0, 1) := by decide +kernel
theorem d_M_init_95 : decode b_M_init 95 = .ok (.getfield 7, 3) := by decide +kernel
theorem d_M_init_98 : decode b_M_init 98 = .ok (.iload_n 1, 1) := by decide +kernel
theorem d_M_init_99 : decode b_M_init 99 = .ok (.iconst (-1), 1) := by decide +kernel
theorem d_M_init_100 : decode b_M_init 100 = .ok (.iastore, 1) := by decide +kernel
theorem d_M_init_101 : decode b_M_init 101 = .ok (.iinc 1 1, 3) := by decide +kernel
theorem d_M_init_104 : decode b_M_init 104 = .ok (.goto (-17), 3) := by decide +kernel
theorem d_M_init_107 : decode b_M_init 107 = .ok (.aload_n 0, 1) := by decide +kernel
theorem d_M_init_108 : decode b_M_init 108 = .ok (.invokevirtual 46, 3) := by decide +kernel
theorem d_M_init_111 : decode b_M_init 111 = .ok (.return_, 1) := by decide +kernel
