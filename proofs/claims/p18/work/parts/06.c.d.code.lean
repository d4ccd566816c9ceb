theorem d_R_state_169 : decode b_R_state 169 = .ok (.aload_n 0, 1) := by decide +kernel
theorem d_R_state_170 : decode b_R_state 170 = .ok (.getfield 20, 3) := by decide +kernel
theorem d_R_state_173 : decode b_R_state 173 = .ok (.invokevirtual 198, 3) := by decide +kernel
theorem d_R_state_176 : decode b_R_state 176 = .ok (.ireturn, 1) := by decide +kernel
theorem d_R_state_177 : decode b_R_state 177 = .ok (.iload_n 2, 1) := by decide +kernel
theorem d_R_state_178 : decode b_R_state 178 = .ok (.ifCond .eq (7), 3) := by decide +kernel
theorem d_R_state_181 : decode b_R_state 181 = .ok (.iconst 1, 1) := by decide +kernel
theorem d_R_state_182 : decode b_R_state 182 = .ok (.goto (4), 3) := by decide +kernel
theorem d_R_state_185 : decode b_R_state 185 = .ok (.iconst 0, 1) := by decide +kernel
theorem d_R_state_186 : decode b_R_state 186 = .ok (.ireturn, 1) := by decide +kernel
theorem d_R_state_187 : decode b_R_state 187 = .ok (.iconst (-1), 1) := by decide +kernel
theorem d_R_state_188 : decode b_R_state 188 = .ok (.ireturn, 1) := by decide +kernel
theorem d_L_axle_0 : decode b_L_axle 0 = .ok (.aload_n 2, 1) := by decide +kernel
theorem d_L_axle_1 : decode b_L_axle 1 = .ok (.iconst 0, 1) := by decide +kernel
theorem d_L_axle_2 : decode b_L_axle 2 = .ok (.aload_n 0, 1) := by decide +kernel
theorem d_L_axle_3 : decode b_L_axle 3 = .ok (.iload_n 1, 1) := by decide +kernel
theorem d_L_axle_4 : decode b_L_axle 4 = .ok (.invokevirtual 7, 3) := by decide +kernel
theorem d_L_axle_7 : decode b_L_axle 7 = .ok (.i2l, 1) := by decide +kernel
theorem d_L_axle_8 : decode b_L_axle 8 = .ok (.lastore, 1) := by decide +kernel
theorem d_L_axle_9 : decode b_L_axle 9 = .ok (.goto (9), 3) := by decide +kernel
theorem d_L_axle_12 : decode b_L_axle 12 = .ok (.astore_n 3, 1) := by decide +kernel
theorem d_L_axle_13 : decode b_L_axle 13 = .ok (.iconst 1, 1) := by decide +kernel
theorem d_L_axle_14 : decode b_L_axle 14 = .ok (.ireturn, 1) := by decide +kernel
theorem d_L_axle_15 : decode b_L_axle 15 = .ok (.astore_n 3, 1) := by decide +kernel
theorem d_L_axle_16 : decode b_L_axle 16 = .ok (.iconst 2, 1) := by decide +kernel
theorem d_L_axle_17 : decode b_L_axle 17 = .ok (.ireturn, 1) := by decide +kernel
theorem d_L_axle_18 : decode b_L_axle 18 = .ok (.iconst 0, 1) := by decide +kernel
theorem d_L_axle_19 : decode b_L_axle 19 = .ok (.ireturn, 1) := by decide +kernel
theorem d_L_close_0 : decode b_L_close 0 = .ok (.aload 5, 2) := by decide +kernel
theorem d_L_close_2 : decode b_L_close 2 = .ok (.iconst 0, 1) := by decide +kernel
theorem d_L_close_3 : decode b_L_close 3 = .ok (.aload_n 0, 1) := by decide +kernel
theorem d_L_close_4 : decode b_L_close 4 = .ok (.iload_n 1, 1) := by decide +kernel
theorem d_L_close_5 : decode b_L_close 5 = .ok (.iload_n 2, 1) := by decide +kernel
theorem d_L_close_6 : decode b_L_close 6 = .ok (.iload_n 3, 1) := by decide +kernel
theorem d_L_close_7 : decode b_L_close 7 = .ok (.iload 4, 2) := by decide +kernel
theorem d_L_close_9 : decode b_L_close 9 = .ok (.invokevirtual 17, 3) := by decide +kernel
theorem d_L_close_12 : decode b_L_close 12 = .ok (.i2l, 1) := by decide +kernel
theorem d_L_close_13 : decode b_L_close 13 = .ok (.lastore, 1) := by decide +kernel
theorem d_L_close_14 : decode b_L_close 14 = .ok (.goto (11), 3) := by decide +kernel
theorem d_L_close_17 : decode b_L_close 17 = .ok (.astore 6, 2) := by decide +kernel
theorem d_L_close_19 : decode b_L_close 19 = .ok (.iconst 1, 1) := by decide +kernel
theorem d_L_close_20 : decode b_L_close 20 = .ok (.ireturn, 1) := by decide +kernel
theorem d_L_close_21 : decode b_L_close 21 = .ok (.astore 6, 2) := by decide +kernel
theorem d_L_close_23 : decode b_L_close 23 = .ok (.iconst 2, 1) := by decide +kernel
theorem d_L_close_24 : decode b_L_close 24 = .ok (.ireturn, 1) := by decide +kernel
theorem d_L_close_25 : decode b_L_close 25 = .ok (.iconst 0, 1) := by decide +kernel
theorem d_L_close_26 : decode b_L_close 26 = .ok (.ireturn, 1) := by decide +kernel
theorem d_L_annul_0 : decode b_L_annul 0 = .ok (.aload_n 3, 1) := by decide +kernel
theorem d_L_annul_1 : decode b_L_annul 1 = .ok (.iconst 0, 1) := by decide +kernel
theorem d_L_annul_2 : decode b_L_annul 2 = .ok (.aload_n 0, 1) := by decide +kernel
theorem d_L_annul_3 : decode b_L_annul 3 = .ok (.iload_n 1, 1) := by decide +kernel
theorem d_L_annul_4 : decode b_L_annul 4 = .ok (.iload_n 2, 1) := by decide +kernel
theorem d_L_annul_5 : decode b_L_annul 5 = .ok (.invokevirtual 21, 3) := by decide +kernel
theorem d_L_annul_8 : decode b_L_annul 8 = .ok (.i2l, 1) := by decide +kernel
theorem d_L_annul_9 : decode b_L_annul 9 = .ok (.lastore, 1) := by decide +kernel
theorem d_L_annul_10 : decode b_L_annul 10 = .ok (.goto (11), 3) := by decide +kernel
theorem d_L_annul_13 : decode b_L_annul 13 = .ok (.astore 4, 2) := by decide +kernel
theorem d_L_annul_15 : decode b_L_annul 15 = .ok (.iconst 1, 1) := by decide +kernel
theorem d_L_annul_16 : decode b_L_annul 16 = .ok (.ireturn, 1) := by decide +kernel
theorem d_L_annul_17 : decode b_L_annul 17 = .ok (.astore 4, 2) := by decide +kernel
theorem d_L_annul_19 : decode b_L_annul 19 = .ok (.iconst 2, 1) := by decide +kernel
theorem d_L_annul_20 : decode b_L_annul 20 = .ok (.ireturn, 1) := by decide +kernel
theorem d_L_annul_21 : decode b_L_annul 21 = .ok (.iconst 0, 1) := by decide +kernel
theorem d_L_annul_22 : decode b_L_annul 22 = .ok (.ireturn, 1) := by decide +kernel
theorem d_L_sync_0 : decode b_L_sync 0 = .ok (.aload_n 1, 1) := by decide +kernel
theorem d_L_sync_1 : decode b_L_sync 1 = .ok (.iconst 0, 1) := by decide +kernel
theorem d_L_sync_2 : decode b_L_sync 2 = .ok (.aload_n 0, 1) := by decide +kernel
theorem d_L_sync_3 : decode b_L_sync 3 = .ok (.invokevirtual 25, 3) := by decide +kernel
theorem d_L_sync_6 : decode b_L_sync 6 = .ok (.i2l, 1) := by decide +kernel
theorem d_L_sync_7 : decode b_L_sync 7 = .ok (.lastore, 1) := by decide +kernel
theorem d_L_sync_8 : decode b_L_sync 8 = .ok (.goto (6), 3) := by decide +kernel
theorem d_L_sync_11 : decode b_L_sync 11 = .ok (.astore_n 2, 1) := by decide +kernel
theorem d_L_sync_12 : decode b_L_sync 12 = .ok (.iconst 1, 1) := by decide +kernel
theorem d_L_sync_13 : decode b_L_sync 13 = .ok (.ireturn, 1) := by decide +kernel
theorem d_L_sync_14 : decode b_L_sync 14 = .ok (.iconst 0, 1) := by decide +kernel
theorem d_L_sync_15 : decode b_L_sync 15 = .ok (.ireturn, 1) := by decide +kernel
theorem d_L_ticket_0 : decode b_L_ticket 0 = .ok (.aload_n 3, 1) := by decide +kernel
theorem d_L_ticket_1 : decode b_L_ticket 1 = .ok (.iconst 0, 1) := by decide +kernel
theorem d_L_ticket_2 : decode b_L_ticket 2 = .ok (.aload_n 0, 1) := by decide +kernel
theorem d_L_ticket_3 : decode b_L_ticket 3 = .ok (.iload_n 1, 1) := by decide +kernel
theorem d_L_ticket_4 : decode b_L_ticket 4 = .ok (.iload_n 2, 1) := by decide +kernel
theorem d_L_ticket_5 : decode b_L_ticket 5 = .ok (.invokevirtual 29, 3) := by decide +kernel
theorem d_L_ticket_8 : decode b_L_ticket 8 = .ok (.i2l, 1) := by decide +kernel
theorem d_L_ticket_9 : decode b_L_ticket 9 = .ok (.lastore, 1) := by decide +kernel
theorem d_L_ticket_10 : decode b_L_ticket 10 = .ok (.goto (11), 3) := by decide +kernel
theorem d_L_ticket_13 : decode b_L_ticket 13 = .ok (.astore 4, 2) := by decide +kernel
theorem d_L_ticket_15 : decode b_L_ticket 15 = .ok (.iconst 1, 1) := by decide +kernel
theorem d_L_ticket_16 : decode b_L_ticket 16 = .ok (.ireturn, 1) := by decide +kernel
theorem d_L_ticket_17 : decode b_L_ticket 17 = .ok (.astore 4, 2) := by decide +kernel
theorem d_L_ticket_19 : decode b_L_ticket 19 = .ok (.iconst 2, 1) := by decide +kernel
theorem d_L_ticket_20 : decode b_L_ticket 20 = .ok (.ireturn, 1) := by decide +kernel
theorem d_L_ticket_21 : decode b_L_ticket 21 = .ok (.iconst 0, 1) := by decide +kernel
theorem d_L_ticket_22 : decode b_L_ticket 22 = .ok (.ireturn, 1) := by decide +kernel
theorem d_L_dayTotal_0 : decode b_L_dayTotal 0 = .ok (.aload_n 3, 1) := by decide +kernel
theorem d_L_dayTotal_1 : decode b_L_dayTotal 1 = .ok (.iconst 0, 1) := by decide +kernel
theorem d_L_dayTotal_2 : decode b_L_dayTotal 2 = .ok (.aload_n 0, 1) := by decide +kernel
theorem d_L_dayTotal_3 : decode b_L_dayTotal 3 = .ok (.iload_n 1, 1) := by decide +kernel
theorem d_L_dayTotal_4 : decode b_L_dayTotal 4 = .ok (.iload_n 2, 1) := by decide +kernel
theorem d_L_dayTotal_5 : decode b_L_dayTotal 5 = .ok (.invokevirtual 34, 3) := by decide +kernel
theorem d_L_dayTotal_8 : decode b_L_dayTotal 8 = .ok (.lastore, 1) := by decide +kernel
theorem d_L_dayTotal_9 : decode b_L_dayTotal 9 = .ok (.goto (7), 3) := by decide +kernel
theorem d_L_dayTotal_12 : decode b_L_dayTotal 12 = .ok (.astore 4, 2) := by decide +kernel
theorem d_L_dayTotal_14 : decode b_L_dayTotal 14 = .ok (.iconst 1, 1) := by decide +kernel
theorem d_L_dayTotal_15 : decode b_L_dayTotal 15 = .ok (.ireturn, 1) := by decide +kernel
theorem d_L_dayTotal_16 : decode b_L_dayTotal 16 = .ok (.iconst 0, 1) := by decide +kernel
theorem d_L_dayTotal_17 : decode b_L_dayTotal 17 = .ok (.ireturn, 1) := by decide +kernel
theorem d_L_rangeTotal_0 : decode b_L_rangeTotal 0 = .ok (.aload_n 3, 1) := by decide +kernel
theorem d_L_rangeTotal_1 : decode b_L_rangeTotal 1 = .ok (.iconst 0, 1) := by decide +kernel
theorem d_L_rangeTotal_2 : decode b_L_rangeTotal 2 = .ok (.aload_n 0, 1) := by decide +kernel
theorem d_L_rangeTotal_3 : decode b_L_rangeTotal 3 = .ok (.iload_n 1, 1) := by decide +kernel
theorem d_L_rangeTotal_4 : decode b_L_rangeTotal 4 = .ok (.iload_n 2, 1) := by decide +kernel
theorem d_L_rangeTotal_5 : decode b_L_rangeTotal 5 = .ok (.invokevirtual 38, 3) := by decide +kernel
theorem d_L_rangeTotal_8 : decode b_L_rangeTotal 8 = .ok (.lastore, 1) := by decide +kernel
theorem d_L_rangeTotal_9 : decode b_L_rangeTotal 9 = .ok (.goto (7), 3) := by decide +kernel
theorem d_L_rangeTotal_12 : decode b_L_rangeTotal 12 = .ok (.astore 4, 2) := by decide +kernel
theorem d_L_rangeTotal_14 : decode b_L_rangeTotal 14 = .ok (.iconst 1, 1) := by decide +kernel
theorem d_L_rangeTotal_15 : decode b_L_rangeTotal 15 = .ok (.ireturn, 1) := by decide +kernel
theorem d_L_rangeTotal_16 : decode b_L_rangeTotal 16 = .ok (.iconst 0, 1) := by decide +kernel
theorem d_L_rangeTotal_17 : decode b_L_rangeTotal 17 = .ok (.ireturn, 1) := by decide +kernel
theorem d_L_find_0 : decode b_L_find 0 = .ok (.aload_n 3, 1) := by decide +kernel
theorem d_L_find_1 : decode b_L_find 1 = .ok (.iconst 0, 1) := by decide +kernel
theorem d_L_find_2 : decode b_L_find 2 = .ok (.aload_n 0, 1) := by decide +kernel
theorem d_L_find_3 : decode b_L_find 3 = .ok (.iload_n 1, 1) := by decide +kernel
theorem d_L_find_4 : decode b_L_find 4 = .ok (.iload_n 2, 1) := by decide +kernel
theorem d_L_find_5 : decode b_L_find 5 = .ok (.invokevirtual 41, 3) := by decide +kernel
theorem d_L_find_8 : decode b_L_find 8 = .ok (.i2l, 1) := by decide +kernel
theorem d_L_find_9 : decode b_L_find 9 = .ok (.lastore, 1) := by decide +kernel
theorem d_L_find_10 : decode b_L_find 10 = .ok (.goto (7), 3) := by decide +kernel
theorem d_L_find_13 : decode b_L_find 13 = .ok (.astore 4, 2) := by decide +kernel
theorem d_L_find_15 : decode b_L_find 15 = .ok (.iconst 1, 1) := by decide +kernel
theorem d_L_find_16 : decode b_L_find 16 = .ok (.ireturn, 1) := by decide +kernel
theorem d_L_find_17 : decode b_L_find 17 = .ok (.iconst 0, 1) := by decide +kernel
theorem d_L_find_18 : decode b_L_find 18 = .ok (.ireturn, 1) := by decide +kernel
theorem d_L_audit_0 : decode b_L_audit 0 = .ok (.aload_n 3, 1) := by decide +kernel
theorem d_L_audit_1 : decode b_L_audit 1 = .ok (.iconst 0, 1) := by decide +kernel
theorem d_L_audit_2 : decode b_L_audit 2 = .ok (.aload_n 0, 1) := by decide +kernel
theorem d_L_audit_3 : decode b_L_audit 3 = .ok (.iload_n 1, 1) := by decide +kernel
theorem d_L_audit_4 : decode b_L_audit 4 = .ok (.iload_n 2, 1) := by decide +kernel
theorem d_L_audit_5 : decode b_L_audit 5 = .ok (.invokevirtual 44, 3) := by decide +kernel
theorem d_L_audit_8 : decode b_L_audit 8 = .ok (.i2l, 1) := by decide +kernel
theorem d_L_audit_9 : decode b_L_audit 9 = .ok (.lastore, 1) := by decide +kernel
theorem d_L_audit_10 : decode b_L_audit 10 = .ok (.goto (7), 3) := by decide +kernel
theorem d_L_audit_13 : decode b_L_audit 13 = .ok (.astore 4, 2) := by decide +kernel
theorem d_L_audit_15 : decode b_L_audit 15 = .ok (.iconst 1, 1) := by decide +kernel
theorem d_L_audit_16 : decode b_L_audit 16 = .ok (.ireturn, 1) := by decide +kernel
theorem d_L_audit_17 : decode b_L_audit 17 = .ok (.iconst 0, 1) := by decide +kernel
theorem d_L_audit_18 : decode b_L_audit 18 = .ok (.ireturn, 1) := by decide +kernel
theorem d_L_exportByte_0 : decode b_L_exportByte 0 = .ok (.aload 4, 2) := by decide +kernel
theorem d_L_exportByte_2 : decode b_L_exportByte 2 = .ok (.iconst 0, 1) := by decide +kernel
theorem d_L_exportByte_3 : decode b_L_exportByte 3 = .ok (.aload_n 0, 1) := by decide +kernel
theorem d_L_exportByte_4 : decode b_L_exportByte 4 = .ok (.iload_n 1, 1) := by decide +kernel
theorem d_L_exportByte_5 : decode b_L_exportByte 5 = .ok (.iload_n 2, 1) := by decide +kernel
theorem d_L_exportByte_6 : decode b_L_exportByte 6 = .ok (.iload_n 3, 1) := by decide +kernel
theorem d_L_exportByte_7 : decode b_L_exportByte 7 = .ok (.invokevirtual 47, 3) := by decide +kernel
theorem d_L_exportByte_10 : decode b_L_exportByte 10 = .ok (.i2l, 1) := by decide +kernel
theorem d_L_exportByte_11 : decode b_L_exportByte 11 = .ok (.lastore, 1) := by decide +kernel
theorem d_L_exportByte_12 : decode b_L_exportByte 12 = .ok (.goto (7), 3) := by decide +kernel
theorem d_L_exportByte_15 : decode b_L_exportByte 15 = .ok (.astore 5, 2) := by decide +kernel
theorem d_L_exportByte_17 : decode b_L_exportByte 17 = .ok (.iconst 1, 1) := by decide +kernel
theorem d_L_exportByte_18 : decode b_L_exportByte 18 = .ok (.ireturn, 1) := by decide +kernel
theorem d_L_exportByte_19 : decode b_L_exportByte 19 = .ok (.iconst 0, 1) := by decide +kernel
theorem d_L_exportByte_20 : decode b_L_exportByte 20 = .ok (.ireturn, 1) := by decide +kernel
theorem d_L_setProduct_0 : decode b_L_setProduct 0 = .ok (.aload_n 0, 1) := by decide +kernel
theorem d_L_setProduct_1 : decode b_L_setProduct 1 = .ok (.iload_n 1, 1) := by decide +kernel
theorem d_L_setProduct_2 : decode b_L_setProduct 2 = .ok (.iload_n 2, 1) := by decide +kernel
theorem d_L_setProduct_3 : decode b_L_setProduct 3 = .ok (.invokevirtual 51, 3) := by decide +kernel
theorem d_L_setProduct_6 : decode b_L_setProduct 6 = .ok (.goto (6), 3) := by decide +kernel
theorem d_L_setProduct_9 : decode b_L_setProduct 9 = .ok (.astore_n 3, 1) := by decide +kernel
theorem d_L_setProduct_10 : decode b_L_setProduct 10 = .ok (.iconst 1, 1) := by decide +kernel
theorem d_L_setProduct_11 : decode b_L_setProduct 11 = .ok (.ireturn, 1) := by decide +kernel
theorem d_L_setProduct_12 : decode b_L_setProduct 12 = .ok (.iconst 0, 1) := by decide +kernel
theorem d_L_setProduct_13 : decode b_L_setProduct 13 = .ok (.ireturn, 1) := by decide +kernel
theorem d_L_cutAfter_0 : decode b_L_cutAfter 0 = .ok (.aload_n 0, 1) := by decide +kernel
theorem d_L_cutAfter_1 : decode b_L_cutAfter 1 = .ok (.iload_n 1, 1) := by decide +kernel
theorem d_L_cutAfter_2 : decode b_L_cutAfter 2 = .ok (.invokevirtual 55, 3) := by decide +kernel
theorem d_L_cutAfter_5 : decode b_L_cutAfter 5 = .ok (.goto (6), 3) := by decide +kernel
theorem d_L_cutAfter_8 : decode b_L_cutAfter 8 = .ok (.astore_n 2, 1) := by decide +kernel
theorem d_L_cutAfter_9 : decode b_L_cutAfter 9 = .ok (.iconst 1, 1) := by decide +kernel
theorem d_L_cutAfter_10 : decode b_L_cutAfter 10 = .ok (.ireturn, 1) := by decide +kernel
theorem d_L_cutAfter_11 : decode b_L_cutAfter 11 = .ok (.iconst 0, 1) := by decide +kernel
theorem d_L_cutAfter_12 : decode b_L_cutAfter 12 = .ok (.ireturn, 1) := by decide +kernel
theorem d_L_wearOf_0 : decode b_L_wearOf 0 = .ok (.aload_n 2, 1) := by decide +kernel
theorem d_L_wearOf_1 : decode b_L_wearOf 1 = .ok (.iconst 0, 1) := by decide +kernel
theorem d_L_wearOf_2 : decode b_L_wearOf 2 = .ok (.aload_n 0, 1) := by decide +kernel
theorem d_L_wearOf_3 : decode b_L_wearOf 3 = .ok (.iload_n 1, 1) := by decide +kernel
theorem d_L_wearOf_4 : decode b_L_wearOf 4 = .ok (.invokevirtual 59, 3) := by decide +kernel
theorem d_L_wearOf_7 : decode b_L_wearOf 7 = .ok (.i2l, 1) := by decide +kernel
theorem d_L_wearOf_8 : decode b_L_wearOf 8 = .ok (.lastore, 1) := by decide +kernel
theorem d_L_wearOf_9 : decode b_L_wearOf 9 = .ok (.goto (6), 3) := by decide +kernel
theorem d_L_wearOf_12 : decode b_L_wearOf 12 = .ok (.astore_n 3, 1) := by decide +kernel
theorem d_L_wearOf_13 : decode b_L_wearOf 13 = .ok (.iconst 1, 1) := by decide +kernel
theorem d_L_wearOf_14 : decode b_L_wearOf 14 = .ok (.ireturn, 1) := by decide +kernel
theorem d_L_wearOf_15 : decode b_L_wearOf 15 = .ok (.iconst 0, 1) := by decide +kernel
theorem d_L_wearOf_16 : decode b_L_wearOf 16 = .ok (.ireturn, 1) := by decide +kernel
theorem d_L_failBlock_0 : decode b_L_failBlock 0 = .ok (.aload_n 0, 1) := by decide +kernel
theorem d_L_failBlock_1 : decode b_L_failBlock 1 = .ok (.iload_n 1, 1) := by decide +kernel
theorem d_L_failBlock_2 : decode b_L_failBlock 2 = .ok (.invokevirtual 62, 3) := by decide +kernel
theorem d_L_failBlock_5 : decode b_L_failBlock 5 = .ok (.goto (6), 3) := by decide +kernel
theorem d_L_failBlock_8 : decode b_L_failBlock 8 = .ok (.astore_n 2, 1) := by decide +kernel
theorem d_L_failBlock_9 : decode b_L_failBlock 9 = .ok (.iconst 1, 1) := by decide +kernel
theorem d_L_failBlock_10 : decode b_L_failBlock 10 = .ok (.ireturn, 1) := by decide +kernel
theorem d_L_failBlock_11 : decode b_L_failBlock 11 = .ok (.iconst 0, 1) := by decide +kernel
theorem d_L_failBlock_12 : decode b_L_failBlock 12 = .ok (.ireturn, 1) := by decide +kernel
theorem d_L_poke_0 : decode b_L_poke 0 = .ok (.aload_n 0, 1) := by decide +kernel
theorem d_L_poke_1 : decode b_L_poke 1 = .ok (.iload_n 1, 1) := by decide +kernel
theorem d_L_poke_2 : decode b_L_poke 2 = .ok (.iload_n 2, 1) := by decide +kernel
theorem d_L_poke_3 : decode b_L_poke 3 = .ok (.iload_n 3, 1) := by decide +kernel
theorem d_L_poke_4 : decode b_L_poke 4 = .ok (.invokevirtual 65, 3) := by decide +kernel
theorem d_L_poke_7 : decode b_L_poke 7 = .ok (.goto (7), 3) := by decide +kernel
theorem d_L_poke_10 : decode b_L_poke 10 = .ok (.astore 4, 2) := by decide +kernel
theorem d_L_poke_12 : decode b_L_poke 12 = .ok (.iconst 1, 1) := by decide +kernel
theorem d_L_poke_13 : decode b_L_poke 13 = .ok (.ireturn, 1) := by decide +kernel
theorem d_L_poke_14 : decode b_L_poke 14 = .ok (.iconst 0, 1) := by decide +kernel
theorem d_L_poke_15 : decode b_L_poke 15 = .ok (.ireturn, 1) := by decide +kernel
theorem d_L_word_0 : decode b_L_word 0 = .ok (.aload_n 3, 1) := by decide +kernel
theorem d_L_word_1 : decode b_L_word 1 = .ok (.iconst 0, 1) := by decide +kernel
theorem d_L_word_2 : decode b_L_word 2 = .ok (.aload_n 0, 1) := by decide +kernel
theorem d_L_word_3 : decode b_L_word 3 = .ok (.iload_n 1, 1) := by decide +kernel
theorem d_L_word_4 : decode b_L_word 4 = .ok (.iload_n 2, 1) := by decide +kernel
theorem d_L_word_5 : decode b_L_word 5 = .ok (.invokevirtual 69, 3) := by decide +kernel
theorem d_L_word_8 : decode b_L_word 8 = .ok (.i2l, 1) := by decide +kernel
theorem d_L_word_9 : decode b_L_word 9 = .ok (.lastore, 1) := by decide +kernel
theorem d_L_word_10 : decode b_L_word 10 = .ok (.goto (7), 3) := by decide +kernel
theorem d_L_word_13 : decode b_L_word 13 = .ok (.astore 4, 2) := by decide +kernel
theorem d_L_word_15 : decode b_L_word 15 = .ok (.iconst 1, 1) := by decide +kernel
theorem d_L_word_16 : decode b_L_word 16 = .ok (.ireturn, 1) := by decide +kernel
theorem d_L_word_17 : decode b_L_word 17 = .ok (.iconst 0, 1) := by decide +kernel
theorem d_L_word_18 : decode b_L_word 18 = .ok (.ireturn, 1) := by decide +kernel
theorem d_M_thrown_0 : decode b_M_thrown 0 = .ok (.aload_n 0, 1) := by decide +kernel
theorem d_M_thrown_1 : decode b_M_thrown 1 = .ok (.getfield 49, 3) := by decide +kernel
theorem d_M_thrown_4 : decode b_M_thrown 4 = .ok (.ireturn, 1) := by decide +kernel
theorem d_M_fails_0 : decode b_M_fails 0 = .ok (.aload_n 0, 1) := by decide +kernel
theorem d_M_fails_1 : decode b_M_fails 1 = .ok (.iload_n 2, 1) := by decide +kernel
theorem d_M_fails_2 : decode b_M_fails 2 = .ok (.ifCond .eq (7), 3) := by decide +kernel
theorem d_M_fails_5 : decode b_M_fails 5 = .ok (.iload_n 1, 1) := by decide +kernel
theorem d_M_fails_6 : decode b_M_fails 6 = .ok (.goto (4), 3) := by decide +kernel
theorem d_M_fails_9 : decode b_M_fails 9 = .ok (.iconst 0, 1) := by decide +kernel
theorem d_M_fails_10 : decode b_M_fails 10 = .ok (.putfield 49, 3) := by decide +kernel
theorem d_M_fails_13 : decode b_M_fails 13 = .ok (.iload_n 2, 1) := by decide +kernel
theorem d_M_fails_14 : decode b_M_fails 14 = .ok (.ireturn, 1) := by decide +kernel
theorem d_M_isIn_0 : decode b_M_isIn 0 = .ok (.iload_n 0, 1) := by decide +kernel
theorem d_M_isIn_1 : decode b_M_isIn 1 = .ok (.iload_n 1, 1) := by decide +kernel
theorem d_M_isIn_2 : decode b_M_isIn 2 = .ok (.if_icmp .lt (12), 3) := by decide +kernel
theorem d_M_isIn_5 : decode b_M_isIn 5 = .ok (.iload_n 0, 1) := by decide +kernel
theorem d_M_isIn_6 : decode b_M_isIn 6 = .ok (.iload_n 2, 1) := by decide +kernel
theorem d_M_isIn_7 : decode b_M_isIn 7 = .ok (.if_icmp .gt (7), 3) := by decide +kernel
theorem d_M_isIn_10 : decode b_M_isIn 10 = .ok (.iconst 1, 1) := by decide +kernel
theorem d_M_isIn_11 : decode b_M_isIn 11 = .ok (.goto (4), 3) := by decide +kernel
theorem d_M_isIn_14 : decode b_M_isIn 14 = .ok (.iconst 0, 1) := by decide +kernel
theorem d_M_isIn_15 : decode b_M_isIn 15 = .ok (.ireturn, 1) := by decide +kernel
theorem d_M_forget_0 : decode b_M_forget 0 = .ok (.aload_n 0, 1) := by decide +kernel
theorem d_M_forget_1 : decode b_M_forget 1 = .ok (.iconst 0, 1) := by decide +kernel
theorem d_M_forget_2 : decode b_M_forget 2 = .ok (.putfield 52, 3) := by decide +kernel
theorem d_M_forget_5 : decode b_M_forget 5 = .ok (.iconst 0, 1) := by decide +kernel
theorem d_M_forget_6 : decode b_M_forget 6 = .ok (.istore_n 1, 1) := by decide +kernel
theorem d_M_forget_7 : decode b_M_forget 7 = .ok (.iload_n 1, 1) := by decide +kernel
theorem d_M_forget_8 : decode b_M_forget 8 = .ok (.bipush 16, 2) := by decide +kernel
theorem d_M_forget_10 : decode b_M_forget 10 = .ok (.if_icmp .ge (16), 3) := by decide +kernel
theorem d_M_forget_13 : decode b_M_forget 13 = .ok (.aload_n 0, 1) := by decide +kernel
theorem d_M_forget_14 : decode b_M_forget 14 = .ok (.getfield 34, 3) := by decide +kernel
theorem d_M_forget_17 : decode b_M_forget 17 = .ok (.iload_n 1, 1) := by decide +kernel
theorem d_M_forget_18 : decode b_M_forget 18 = .ok (.iconst (-1), 1) := by decide +kernel
theorem d_M_forget_19 : decode b_M_forget 19 = .ok (.iastore, 1) := by decide +kernel
theorem d_M_forget_20 : decode b_M_forget 20 = .ok (.iinc 1 1, 3) := by decide +kernel
theorem d_M_forget_23 : decode b_M_forget 23 = .ok (.goto (-16), 3) := by decide +kernel
theorem d_M_forget_26 : decode b_M_forget 26 = .ok (.aload_n 0, 1) := by decide +kernel
theorem d_M_forget_27 : decode b_M_forget 27 = .ok (.iconst 0, 1) := by decide +kernel
theorem d_M_forget_28 : decode b_M_forget 28 = .ok (.putfield 55, 3) := by decide +kernel
theorem d_M_forget_31 : decode b_M_forget 31 = .ok (.aload_n 0, 1) := by decide +kernel
theorem d_M_forget_32 : decode b_M_forget 32 = .ok (.iconst (-1), 1) := by decide +kernel
theorem d_M_forget_33 : decode b_M_forget 33 = .ok (.putfield 40, 3) := by decide +kernel
theorem d_M_forget_36 : decode b_M_forget 36 = .ok (.aload_n 0, 1) := by decide +kernel
theorem d_M_forget_37 : decode b_M_forget 37 = .ok (.iconst 0, 1) := by decide +kernel
theorem d_M_forget_38 : decode b_M_forget 38 = .ok (.putfield 58, 3) := by decide +kernel
theorem d_M_forget_41 : decode b_M_forget 41 = .ok (.aload_n 0, 1) := by decide +kernel
theorem d_M_forget_42 : decode b_M_forget 42 = .ok (.iconst 0, 1) := by decide +kernel
theorem d_M_forget_43 : decode b_M_forget 43 = .ok (.putfield 61, 3) := by decide +kernel
theorem d_M_forget_46 : decode b_M_forget 46 = .ok (.aload_n 0, 1) := by decide +kernel
theorem d_M_forget_47 : decode b_M_forget 47 = .ok (.iconst 0, 1) := by decide +kernel
theorem d_M_forget_48 : decode b_M_forget 48 = .ok (.putfield 64, 3) := by decide +kernel
theorem d_M_forget_51 : decode b_M_forget 51 = .ok (.aload_n 0, 1) := by decide +kernel
theorem d_M_forget_52 : decode b_M_forget 52 = .ok (.iconst (-1), 1) := by decide +kernel
theorem d_M_forget_53 : decode b_M_forget 53 = .ok (.putfield 27, 3) := by decide +kernel
theorem d_M_forget_56 : decode b_M_forget 56 = .ok (.return_, 1) := by decide +kernel
theorem d_M_off_0 : decode b_M_off 0 = .ok (.aload_n 0, 1) := by decide +kernel
theorem d_M_off_1 : decode b_M_off 1 = .ok (.iconst 0, 1) := by decide +kernel
theorem d_M_off_2 : decode b_M_off 2 = .ok (.putfield 23, 3) := by decide +kernel
theorem d_M_off_5 : decode b_M_off 5 = .ok (.aload_n 0, 1) := by decide +kernel
theorem d_M_off_6 : decode b_M_off 6 = .ok (.invokevirtual 46, 3) := by decide +kernel
theorem d_M_off_9 : decode b_M_off 9 = .ok (.return_, 1) := by decide +kernel
theorem d_M_step_0 : decode b_M_step 0 = .ok (.aload_n 0, 1) := by decide +kernel
theorem d_M_step_1 : decode b_M_step 1 = .ok (.getfield 27, 3) := by decide +kernel
theorem d_M_step_4 : decode b_M_step 4 = .ok (.ifCond .ne (9), 3) := by decide +kernel
theorem d_M_step_7 : decode b_M_step 7 = .ok (.aload_n 0, 1) := by decide +kernel
theorem d_M_step_8 : decode b_M_step 8 = .ok (.invokevirtual 72, 3) := by decide +kernel
theorem d_M_step_11 : decode b_M_step 11 = .ok (.iconst 0, 1) := by decide +kernel
theorem d_M_step_12 : decode b_M_step 12 = .ok (.ireturn, 1) := by decide +kernel
theorem d_M_step_13 : decode b_M_step 13 = .ok (.aload_n 0, 1) := by decide +kernel
theorem d_M_step_14 : decode b_M_step 14 = .ok (.getfield 27, 3) := by decide +kernel
theorem d_M_step_17 : decode b_M_step 17 = .ok (.ifCond .le (13), 3) := by decide +kernel
theorem d_M_step_20 : decode b_M_step 20 = .ok (.aload_n 0, 1) := by decide +kernel
theorem d_M_step_21 : decode b_M_step 21 = .ok (.dup, 1) := by decide +kernel
theorem d_M_step_22 : decode b_M_step 22 = .ok (.getfield 27, 3) := by decide +kernel
theorem d_M_step_25 : decode b_M_step 25 = .ok (.iconst 1, 1) := by decide +kernel
theorem d_M_step_26 : decode b_M_step 26 = .ok (.isub, 1) := by decide +kernel
theorem d_M_step_27 : decode b_M_step 27 = .ok (.putfield 27, 3) := by decide +kernel
theorem d_M_step_30 : decode b_M_step 30 = .ok (.iconst 1, 1) := by decide +kernel
theorem d_M_step_31 : decode b_M_step 31 = .ok (.ireturn, 1) := by decide +kernel
theorem d_M_more_0 : decode b_M_more 0 = .ok (.iload_n 0, 1) := by decide +kernel
theorem d_M_more_1 : decode b_M_more 1 = .ok (.iload_n 1, 1) := by decide +kernel
theorem d_M_more_2 : decode b_M_more 2 = .ok (.ixor, 1) := by decide +kernel
theorem d_M_more_3 : decode b_M_more 3 = .ok (.istore_n 2, 1) := by decide +kernel
theorem d_M_more_4 : decode b_M_more 4 = .ok (.iload_n 2, 1) := by decide +kernel
theorem d_M_more_5 : decode b_M_more 5 = .ok (.iconst 5, 1) := by decide +kernel
theorem d_M_more_6 : decode b_M_more 6 = .ok (.ishl, 1) := by decide +kernel
theorem d_M_more_7 : decode b_M_more 7 = .ok (.iload_n 2, 1) := by decide +kernel
theorem d_M_more_8 : decode b_M_more 8 = .ok (.bipush 27, 2) := by decide +kernel
theorem d_M_more_10 : decode b_M_more 10 = .ok (.iushr, 1) := by decide +kernel
theorem d_M_more_11 : decode b_M_more 11 = .ok (.ior, 1) := by decide +kernel
theorem d_M_more_12 : decode b_M_more 12 = .ok (.ldc 67, 2) := by decide +kernel
theorem d_M_more_14 : decode b_M_more 14 = .ok (.iadd, 1) := by decide +kernel
theorem d_M_more_15 : decode b_M_more 15 = .ok (.ireturn, 1) := by decide +kernel
theorem d_M_sumOf_0 : decode b_M_sumOf 0 = .ok (.sipush 7989, 3) := by decide +kernel
theorem d_M_sumOf_3 : decode b_M_sumOf 3 = .ok (.istore 4, 2) := by decide +kernel
theorem d_M_sumOf_5 : decode b_M_sumOf 5 = .ok (.iconst 0, 1) := by decide +kernel
theorem d_M_sumOf_6 : decode b_M_sumOf 6 = .ok (.istore 5, 2) := by decide +kernel
theorem d_M_sumOf_8 : decode b_M_sumOf 8 = .ok (.iload 5, 2) := by decide +kernel
theorem d_M_sumOf_10 : decode b_M_sumOf 10 = .ok (.iload_n 3, 1) := by decide +kernel
theorem d_M_sumOf_11 : decode b_M_sumOf 11 = .ok (.if_icmp .ge (22), 3) := by decide +kernel
theorem d_M_sumOf_14 : decode b_M_sumOf 14 = .ok (.iload 4, 2) := by decide +kernel
theorem d_M_sumOf_16 : decode b_M_sumOf 16 = .ok (.aload_n 1, 1) := by decide +kernel
theorem d_M_sumOf_17 : decode b_M_sumOf 17 = .ok (.iload_n 2, 1) := by decide +kernel
theorem d_M_sumOf_18 : decode b_M_sumOf 18 = .ok (.iload 5, 2) := by decide +kernel
theorem d_M_sumOf_20 : decode b_M_sumOf 20 = .ok (.iadd, 1) := by decide +kernel
theorem d_M_sumOf_21 : decode b_M_sumOf 21 = .ok (.iaload, 1) := by decide +kernel
theorem d_M_sumOf_22 : decode b_M_sumOf 22 = .ok (.invokestatic 68, 3) := by decide +kernel
theorem d_M_sumOf_25 : decode b_M_sumOf 25 = .ok (.istore 4, 2) := by decide +kernel
theorem d_M_sumOf_27 : decode b_M_sumOf 27 = .ok (.iinc 5 1, 3) := by decide +kernel
theorem d_M_sumOf_30 : decode b_M_sumOf 30 = .ok (.goto (-22), 3) := by decide +kernel
theorem d_M_sumOf_33 : decode b_M_sumOf 33 = .ok (.iload 4, 2) := by decide +kernel
theorem d_M_sumOf_35 : decode b_M_sumOf 35 = .ok (.ireturn, 1) := by decide +kernel
theorem d_M_isFree_0 : decode b_M_isFree 0 = .ok (.iconst 1, 1) := by decide +kernel
theorem d_M_isFree_1 : decode b_M_isFree 1 = .ok (.istore_n 2, 1) := by decide +kernel
theorem d_M_isFree_2 : decode b_M_isFree 2 = .ok (.iconst 0, 1) := by decide +kernel
theorem d_M_isFree_3 : decode b_M_isFree 3 = .ok (.istore_n 3, 1) := by decide +kernel
theorem d_M_isFree_4 : decode b_M_isFree 4 = .ok (.iload_n 3, 1) := by decide +kernel
theorem d_M_isFree_5 : decode b_M_isFree 5 = .ok (.bipush 16, 2) := by decide +kernel
theorem d_M_isFree_7 : decode b_M_isFree 7 = .ok (.if_icmp .ge (34), 3) := by decide +kernel
theorem d_M_isFree_10 : decode b_M_isFree 10 = .ok (.iload_n 2, 1) := by decide +kernel
theorem d_M_isFree_11 : decode b_M_isFree 11 = .ok (.ifCond .eq (22), 3) := by decide +kernel
theorem d_M_isFree_14 : decode b_M_isFree 14 = .ok (.aload_n 0, 1) := by decide +kernel
theorem d_M_isFree_15 : decode b_M_isFree 15 = .ok (.getfield 7, 3) := by decide +kernel
theorem d_M_isFree_18 : decode b_M_isFree 18 = .ok (.bipush 16, 2) := by decide +kernel
theorem d_M_isFree_20 : decode b_M_isFree 20 = .ok (.iload_n 1, 1) := by decide +kernel
theorem d_M_isFree_21 : decode b_M_isFree 21 = .ok (.imul, 1) := by decide +kernel
theorem d_M_isFree_22 : decode b_M_isFree 22 = .ok (.iload_n 3, 1) := by decide +kernel
theorem d_M_isFree_23 : decode b_M_isFree 23 = .ok (.iadd, 1) := by decide +kernel
theorem d_M_isFree_24 : decode b_M_isFree 24 = .ok (.iaload, 1) := by decide +kernel
theorem d_M_isFree_25 : decode b_M_isFree 25 = .ok (.iconst (-1), 1) := by decide +kernel
theorem d_M_isFree_26 : decode b_M_isFree 26 = .ok (.if_icmp .ne (7), 3) := by decide +kernel
theorem d_M_isFree_29 : decode b_M_isFree 29 = .ok (.iconst 1, 1) := by decide +kernel
theorem d_M_isFree_30 : decode b_M_isFree 30 = .ok (.goto (4), 3) := by decide +kernel
theorem d_M_isFree_33 : decode b_M_isFree 33 = .ok (.iconst 0, 1) := by decide +kernel
theorem d_M_isFree_34 : decode b_M_isFree 34 = .ok (.istore_n 2, 1) := by decide +kernel
theorem d_M_isFree_35 : decode b_M_isFree 35 = .ok (.iinc 3 1, 3) := by decide +kernel
theorem d_M_isFree_38 : decode b_M_isFree 38 = .ok (.goto (-34), 3) := by decide +kernel
theorem d_M_isFree_41 : decode b_M_isFree 41 = .ok (.iload_n 2, 1) := by decide +kernel
theorem d_M_isFree_42 : decode b_M_isFree 42 = .ok (.ireturn, 1) := by decide +kernel
theorem d_M_isRight_0 : decode b_M_isRight 0 = .ok (.aload_n 0, 1) := by decide +kernel
theorem d_M_isRight_1 : decode b_M_isRight 1 = .ok (.getfield 7, 3) := by decide +kernel
theorem d_M_isRight_4 : decode b_M_isRight 4 = .ok (.bipush 16, 2) := by decide +kernel
theorem d_M_isRight_6 : decode b_M_isRight 6 = .ok (.iload_n 1, 1) := by decide +kernel
theorem d_M_isRight_7 : decode b_M_isRight 7 = .ok (.imul, 1) := by decide +kernel
theorem d_M_isRight_8 : decode b_M_isRight 8 = .ok (.iaload, 1) := by decide +kernel
theorem d_M_isRight_9 : decode b_M_isRight 9 = .ok (.istore_n 2, 1) := by decide +kernel
theorem d_M_isRight_10 : decode b_M_isRight 10 = .ok (.iload_n 2, 1) := by decide +kernel
theorem d_M_isRight_11 : decode b_M_isRight 11 = .ok (.ifCond .lt (65), 3) := by decide +kernel
theorem d_M_isRight_14 : decode b_M_isRight 14 = .ok (.iload_n 2, 1) := by decide +kernel
theorem d_M_isRight_15 : decode b_M_isRight 15 = .ok (.bipush 64, 2) := by decide +kernel
theorem d_M_isRight_17 : decode b_M_isRight 17 = .ok (.if_icmp .ge (59), 3) := by decide +kernel
theorem d_M_isRight_20 : decode b_M_isRight 20 = .ok (.iload_n 2, 1) := by decide +kernel
theorem d_M_isRight_21 : decode b_M_isRight 21 = .ok (.iconst 4, 1) := by decide +kernel
theorem d_M_isRight_22 : decode b_M_isRight 22 = .ok (.irem, 1) := by decide +kernel
theorem d_M_isRight_23 : decode b_M_isRight 23 = .ok (.ifCond .le (53), 3) := by decide +kernel
theorem d_M_isRight_26 : decode b_M_isRight 26 = .ok (.aload_n 0, 1) := by decide +kernel
theorem d_M_isRight_27 : decode b_M_isRight 27 = .ok (.getfield 7, 3) := by decide +kernel
theorem d_M_isRight_30 : decode b_M_isRight 30 = .ok (.bipush 16, 2) := by decide +kernel
theorem d_M_isRight_32 : decode b_M_isRight 32 = .ok (.iload_n 1, 1) := by decide +kernel
theorem d_M_isRight_33 : decode b_M_isRight 33 = .ok (.imul, 1) := by decide +kernel
theorem d_M_isRight_34 : decode b_M_isRight 34 = .ok (.bipush 15, 2) := by decide +kernel
theorem d_M_isRight_36 : decode b_M_isRight 36 = .ok (.iadd, 1) := by decide +kernel
theorem d_M_isRight_37 : decode b_M_isRight 37 = .ok (.iaload, 1) := by decide +kernel
theorem d_M_isRight_38 : decode b_M_isRight 38 = .ok (.ldc 75, 2) := by decide +kernel
theorem d_M_isRight_40 : decode b_M_isRight 40 = .ok (.if_icmp .ne (36), 3) := by decide +kernel
theorem d_M_isRight_43 : decode b_M_isRight 43 = .ok (.aload_n 0, 1) := by decide +kernel
theorem d_M_isRight_44 : decode b_M_isRight 44 = .ok (.getfield 7, 3) := by decide +kernel
theorem d_M_isRight_47 : decode b_M_isRight 47 = .ok (.bipush 16, 2) := by decide +kernel
theorem d_M_isRight_49 : decode b_M_isRight 49 = .ok (.iload_n 1, 1) := by decide +kernel
theorem d_M_isRight_50 : decode b_M_isRight 50 = .ok (.imul, 1) := by decide +kernel
theorem d_M_isRight_51 : decode b_M_isRight 51 = .ok (.bipush 14, 2) := by decide +kernel
theorem d_M_isRight_53 : decode b_M_isRight 53 = .ok (.iadd, 1) := by decide +kernel
theorem d_M_isRight_54 : decode b_M_isRight 54 = .ok (.iaload, 1) := by decide +kernel
theorem d_M_isRight_55 : decode b_M_isRight 55 = .ok (.aload_n 0, 1) := by decide +kernel
theorem d_M_isRight_56 : decode b_M_isRight 56 = .ok (.aload_n 0, 1) := by decide +kernel
theorem d_M_isRight_57 : decode b_M_isRight 57 = .ok (.getfield 7, 3) := by decide +kernel
theorem d_M_isRight_60 : decode b_M_isRight 60 = .ok (.bipush 16, 2) := by decide +kernel
theorem d_M_isRight_62 : decode b_M_isRight 62 = .ok (.iload_n 1, 1) := by decide +kernel
theorem d_M_isRight_63 : decode b_M_isRight 63 = .ok (.imul, 1) := by decide +kernel
theorem d_M_isRight_64 : decode b_M_isRight 64 = .ok (.bipush 14, 2) := by decide +kernel
theorem d_M_isRight_66 : decode b_M_isRight 66 = .ok (.invokevirtual 76, 3) := by decide +kernel
theorem d_M_isRight_69 : decode b_M_isRight 69 = .ok (.if_icmp .ne (7), 3) := by decide +kernel
theorem d_M_isRight_72 : decode b_M_isRight 72 = .ok (.iconst 1, 1) := by decide +kernel
theorem d_M_isRight_73 : decode b_M_isRight 73 = .ok (.goto (4), 3) := by decide +kernel
theorem d_M_isRight_76 : decode b_M_isRight 76 = .ok (.iconst 0, 1) := by decide +kernel
theorem d_M_isRight_77 : decode b_M_isRight 77 = .ok (.ireturn, 1) := by decide +kernel
theorem d_M_isLive_0 : decode b_M_isLive 0 = .ok (.iconst 0, 1) := by decide +kernel
theorem d_M_isLive_1 : decode b_M_isLive 1 = .ok (.istore_n 2, 1) := by decide +kernel
theorem d_M_isLive_2 : decode b_M_isLive 2 = .ok (.iconst 0, 1) := by decide +kernel
theorem d_M_isLive_3 : decode b_M_isLive 3 = .ok (.istore_n 3, 1) := by decide +kernel
theorem d_M_isLive_4 : decode b_M_isLive 4 = .ok (.iload_n 3, 1) := by decide +kernel
theorem d_M_isLive_5 : decode b_M_isLive 5 = .ok (.bipush 16, 2) := by decide +kernel
theorem d_M_isLive_7 : decode b_M_isLive 7 = .ok (.if_icmp .ge (29), 3) := by decide +kernel
theorem d_M_isLive_10 : decode b_M_isLive 10 = .ok (.iload_n 2, 1) := by decide +kernel
theorem d_M_isLive_11 : decode b_M_isLive 11 = .ok (.ifCond .ne (13), 3) := by decide +kernel
theorem d_M_isLive_14 : decode b_M_isLive 14 = .ok (.aload_n 0, 1) := by decide +kernel
theorem d_M_isLive_15 : decode b_M_isLive 15 = .ok (.getfield 34, 3) := by decide +kernel
theorem d_M_isLive_18 : decode b_M_isLive 18 = .ok (.iload_n 3, 1) := by decide +kernel
theorem d_M_isLive_19 : decode b_M_isLive 19 = .ok (.iaload, 1) := by decide +kernel
theorem d_M_isLive_20 : decode b_M_isLive 20 = .ok (.iload_n 1, 1) := by decide +kernel
theorem d_M_isLive_21 : decode b_M_isLive 21 = .ok (.if_icmp .ne (7), 3) := by decide +kernel
theorem d_M_isLive_24 : decode b_M_isLive 24 = .ok (.iconst 1, 1) := by decide +kernel
theorem d_M_isLive_25 : decode b_M_isLive 25 = .ok (.goto (4), 3) := by decide +kernel
theorem d_M_isLive_28 : decode b_M_isLive 28 = .ok (.iconst 0, 1) := by decide +kernel
theorem d_M_isLive_29 : decode b_M_isLive 29 = .ok (.istore_n 2, 1) := by decide +kernel
theorem d_M_isLive_30 : decode b_M_isLive 30 = .ok (.iinc 3 1, 3) := by decide +kernel
theorem d_M_isLive_33 : decode b_M_isLive 33 = .ok (.goto (-29), 3) := by decide +kernel
theorem d_M_isLive_36 : decode b_M_isLive 36 = .ok (.iload_n 2, 1) := by decide +kernel
theorem d_M_isLive_37 : decode b_M_isLive 37 = .ok (.ireturn, 1) := by decide +kernel
theorem d_M_firstFree_0 : decode b_M_firstFree 0 = .ok (.iconst 4, 1) := by decide +kernel
theorem d_M_firstFree_1 : decode b_M_firstFree 1 = .ok (.iload_n 1, 1) := by decide +kernel
theorem d_M_firstFree_2 : decode b_M_firstFree 2 = .ok (.imul, 1) := by decide +kernel
theorem d_M_firstFree_3 : decode b_M_firstFree 3 = .ok (.istore_n 2, 1) := by decide +kernel
theorem d_M_firstFree_4 : decode b_M_firstFree 4 = .ok (.iload_n 2, 1) := by decide +kernel
theorem d_M_firstFree_5 : decode b_M_firstFree 5 = .ok (.iconst 4, 1) := by decide +kernel
theorem d_M_firstFree_6 : decode b_M_firstFree 6 = .ok (.iload_n 1, 1) := by decide +kernel
theorem d_M_firstFree_7 : decode b_M_firstFree 7 = .ok (.imul, 1) := by decide +kernel
theorem d_M_firstFree_8 : decode b_M_firstFree 8 = .ok (.iconst 4, 1) := by decide +kernel
theorem d_M_firstFree_9 : decode b_M_firstFree 9 = .ok (.iadd, 1) := by decide +kernel
theorem d_M_firstFree_10 : decode b_M_firstFree 10 = .ok (.if_icmp .ge (19), 3) := by decide +kernel
theorem d_M_firstFree_13 : decode b_M_firstFree 13 = .ok (.aload_n 0, 1) := by decide +kernel
theorem d_M_firstFree_14 : decode b_M_firstFree 14 = .ok (.iload_n 2, 1) := by decide +kernel
theorem d_M_firstFree_15 : decode b_M_firstFree 15 = .ok (.invokevirtual 80, 3) := by decide +kernel
theorem d_M_firstFree_18 : decode b_M_firstFree 18 = .ok (.ifCond .eq (5), 3) := by decide +kernel
theorem d_M_firstFree_21 : decode b_M_firstFree 21 = .ok (.iload_n 2, 1) := by decide +kernel
theorem d_M_firstFree_22 : decode b_M_firstFree 22 = .ok (.ireturn, 1) := by decide +kernel
theorem d_M_firstFree_23 : decode b_M_firstFree 23 = .ok (.iinc 2 1, 3) := by decide +kernel
theorem d_M_firstFree_26 : decode b_M_firstFree 26 = .ok (.goto (-22), 3) := by decide +kernel
theorem d_M_firstFree_29 : decode b_M_firstFree 29 = .ok (.iconst (-1), 1) := by decide +kernel
theorem d_M_firstFree_30 : decode b_M_firstFree 30 = .ok (.ireturn, 1) := by decide +kernel
theorem d_M_isClean_0 : decode b_M_isClean 0 = .ok (.aload_n 0, 1) := by decide +kernel
theorem d_M_isClean_1 : decode b_M_isClean 1 = .ok (.getfield 16, 3) := by decide +kernel
theorem d_M_isClean_4 : decode b_M_isClean 4 = .ok (.iload_n 1, 1) := by decide +kernel
theorem d_M_isClean_5 : decode b_M_isClean 5 = .ok (.baload, 1) := by decide +kernel
theorem d_M_isClean_6 : decode b_M_isClean 6 = .ok (.ifCond .ne (7), 3) := by decide +kernel
theorem d_M_isClean_9 : decode b_M_isClean 9 = .ok (.iconst 1, 1) := by decide +kernel
theorem d_M_isClean_10 : decode b_M_isClean 10 = .ok (.goto (4), 3) := by decide +kernel
theorem d_M_isClean_13 : decode b_M_isClean 13 = .ok (.iconst 0, 1) := by decide +kernel
theorem d_M_isClean_14 : decode b_M_isClean 14 = .ok (.istore_n 2, 1) := by decide +kernel
theorem d_M_isClean_15 : decode b_M_isClean 15 = .ok (.iconst 4, 1) := by decide +kernel
theorem d_M_isClean_16 : decode b_M_isClean 16 = .ok (.iload_n 1, 1) := by decide +kernel
theorem d_M_isClean_17 : decode b_M_isClean 17 = .ok (.imul, 1) := by decide +kernel
theorem d_M_isClean_18 : decode b_M_isClean 18 = .ok (.istore_n 3, 1) := by decide +kernel
theorem d_M_isClean_19 : decode b_M_isClean 19 = .ok (.iload_n 3, 1) := by decide +kernel
theorem d_M_isClean_20 : decode b_M_isClean 20 = .ok (.iconst 4, 1) := by decide +kernel
theorem d_M_isClean_21 : decode b_M_isClean 21 = .ok (.iload_n 1, 1) := by decide +kernel
theorem d_M_isClean_22 : decode b_M_isClean 22 = .ok (.imul, 1) := by decide +kernel
theorem d_M_isClean_23 : decode b_M_isClean 23 = .ok (.iconst 4, 1) := by decide +kernel
theorem d_M_isClean_24 : decode b_M_isClean 24 = .ok (.iadd, 1) := by decide +kernel
theorem d_M_isClean_25 : decode b_M_isClean 25 = .ok (.if_icmp .ge (27), 3) := by decide +kernel
theorem d_M_isClean_28 : decode b_M_isClean 28 = .ok (.iload_n 2, 1) := by decide +kernel
theorem d_M_isClean_29 : decode b_M_isClean 29 = .ok (.ifCond .eq (15), 3) := by decide +kernel
theorem d_M_isClean_32 : decode b_M_isClean 32 = .ok (.aload_n 0, 1) := by decide +kernel
theorem d_M_isClean_33 : decode b_M_isClean 33 = .ok (.iload_n 3, 1) := by decide +kernel
theorem d_M_isClean_34 : decode b_M_isClean 34 = .ok (.invokevirtual 80, 3) := by decide +kernel
theorem d_M_isClean_37 : decode b_M_isClean 37 = .ok (.ifCond .eq (7), 3) := by decide +kernel
theorem d_M_isClean_40 : decode b_M_isClean 40 = .ok (.iconst 1, 1) := by decide +kernel
theorem d_M_isClean_41 : decode b_M_isClean 41 = .ok (.goto (4), 3) := by decide +kernel
theorem d_M_isClean_44 : decode b_M_isClean 44 = .ok (.iconst 0, 1) := by decide +kernel
theorem d_M_isClean_45 : decode b_M_isClean 45 = .ok (.istore_n 2, 1) := by decide +kernel
theorem d_M_isClean_46 : decode b_M_isClean 46 = .ok (.iinc 3 1, 3) := by decide +kernel
theorem d_M_isClean_49 : decode b_M_isClean 49 = .ok (.goto (-30), 3) := by decide +kernel
theorem d_M_isClean_52 : decode b_M_isClean 52 = .ok (.iload_n 2, 1) := by decide +kernel
theorem d_M_isClean_53 : decode b_M_isClean 53 = .ok (.ireturn, 1) := by decide +kernel
theorem d_M_staleOf_0 : decode b_M_staleOf 0 = .ok (.iconst 0, 1) := by decide +kernel
theorem d_M_staleOf_1 : decode b_M_staleOf 1 = .ok (.istore_n 2, 1) := by decide +kernel
theorem d_M_staleOf_2 : decode b_M_staleOf 2 = .ok (.iconst 4, 1) := by decide +kernel
theorem d_M_staleOf_3 : decode b_M_staleOf 3 = .ok (.iload_n 1, 1) := by decide +kernel
theorem d_M_staleOf_4 : decode b_M_staleOf 4 = .ok (.imul, 1) := by decide +kernel
theorem d_M_staleOf_5 : decode b_M_staleOf 5 = .ok (.istore_n 3, 1) := by decide +kernel
theorem d_M_staleOf_6 : decode b_M_staleOf 6 = .ok (.iload_n 3, 1) := by decide +kernel
theorem d_M_staleOf_7 : decode b_M_staleOf 7 = .ok (.iconst 4, 1) := by decide +kernel
theorem d_M_staleOf_8 : decode b_M_staleOf 8 = .ok (.iload_n 1, 1) := by decide +kernel
theorem d_M_staleOf_9 : decode b_M_staleOf 9 = .ok (.imul, 1) := by decide +kernel
theorem d_M_staleOf_10 : decode b_M_staleOf 10 = .ok (.iconst 4, 1) := by decide +kernel
theorem d_M_staleOf_11 : decode b_M_staleOf 11 = .ok (.iadd, 1) := by decide +kernel
theorem d_M_staleOf_12 : decode b_M_staleOf 12 = .ok (.if_icmp .ge (33), 3) := by decide +kernel
theorem d_M_staleOf_15 : decode b_M_staleOf 15 = .ok (.iload_n 2, 1) := by decide +kernel
theorem d_M_staleOf_16 : decode b_M_staleOf 16 = .ok (.aload_n 0, 1) := by decide +kernel
theorem d_M_staleOf_17 : decode b_M_staleOf 17 = .ok (.iload_n 3, 1) := by decide +kernel
theorem d_M_staleOf_18 : decode b_M_staleOf 18 = .ok (.invokevirtual 80, 3) := by decide +kernel
theorem d_M_staleOf_21 : decode b_M_staleOf 21 = .ok (.ifCond .ne (15), 3) := by decide +kernel
theorem d_M_staleOf_24 : decode b_M_staleOf 24 = .ok (.aload_n 0, 1) := by decide +kernel
theorem d_M_staleOf_25 : decode b_M_staleOf 25 = .ok (.iload_n 3, 1) := by decide +kernel
theorem d_M_staleOf_26 : decode b_M_staleOf 26 = .ok (.invokevirtual 84, 3) := by decide +kernel
theorem d_M_staleOf_29 : decode b_M_staleOf 29 = .ok (.ifCond .ne (7), 3) := by decide +kernel
theorem d_M_staleOf_32 : decode b_M_staleOf 32 = .ok (.iconst 1, 1) := by decide +kernel
theorem d_M_staleOf_33 : decode b_M_staleOf 33 = .ok (.goto (4), 3) := by decide +kernel
theorem d_M_staleOf_36 : decode b_M_staleOf 36 = .ok (.iconst 0, 1) := by decide +kernel
theorem d_M_staleOf_37 : decode b_M_staleOf 37 = .ok (.iadd, 1) := by decide +kernel
theorem d_M_staleOf_38 : decode b_M_staleOf 38 = .ok (.istore_n 2, 1) := by decide +kernel
theorem d_M_staleOf_39 : decode b_M_staleOf 39 = .ok (.iinc 3 1, 3) := by decide +kernel
theorem d_M_staleOf_42 : decode b_M_staleOf 42 = .ok (.goto (-36), 3) := by decide +kernel
theorem d_M_staleOf_45 : decode b_M_staleOf 45 = .ok (.iload_n 2, 1) := by decide +kernel
theorem d_M_staleOf_46 : decode b_M_staleOf 46 = .ok (.ireturn, 1) := by decide +kernel
theorem d_M_livesOf_0 : decode b_M_livesOf 0 = .ok (.iconst 0, 1) := by decide +kernel
theorem d_M_livesOf_1 : decode b_M_livesOf 1 = .ok (.istore_n 2, 1) := by decide +kernel
theorem d_M_livesOf_2 : decode b_M_livesOf 2 = .ok (.iconst 4, 1) := by decide +kernel
theorem d_M_livesOf_3 : decode b_M_livesOf 3 = .ok (.iload_n 1, 1) := by decide +kernel
theorem d_M_livesOf_4 : decode b_M_livesOf 4 = .ok (.imul, 1) := by decide +kernel
theorem d_M_livesOf_5 : decode b_M_livesOf 5 = .ok (.istore_n 3, 1) := by decide +kernel
theorem d_M_livesOf_6 : decode b_M_livesOf 6 = .ok (.iload_n 3, 1) := by decide +kernel
theorem d_M_livesOf_7 : decode b_M_livesOf 7 = .ok (.iconst 4, 1) := by decide +kernel
theorem d_M_livesOf_8 : decode b_M_livesOf 8 = .ok (.iload_n 1, 1) := by decide +kernel
theorem d_M_livesOf_9 : decode b_M_livesOf 9 = .ok (.imul, 1) := by decide +kernel
theorem d_M_livesOf_10 : decode b_M_livesOf 10 = .ok (.iconst 4, 1) := by decide +kernel
theorem d_M_livesOf_11 : decode b_M_livesOf 11 = .ok (.iadd, 1) := by decide +kernel
theorem d_M_livesOf_12 : decode b_M_livesOf 12 = .ok (.if_icmp .ge (25), 3) := by decide +kernel
theorem d_M_livesOf_15 : decode b_M_livesOf 15 = .ok (.iload_n 2, 1) := by decide +kernel
theorem d_M_livesOf_16 : decode b_M_livesOf 16 = .ok (.aload_n 0, 1) := by decide +kernel
theorem d_M_livesOf_17 : decode b_M_livesOf 17 = .ok (.iload_n 3, 1) := by decide +kernel
theorem d_M_livesOf_18 : decode b_M_livesOf 18 = .ok (.invokevirtual 84, 3) := by decide +kernel
theorem d_M_livesOf_21 : decode b_M_livesOf 21 = .ok (.ifCond .eq (7), 3) := by decide +kernel
theorem d_M_livesOf_24 : decode b_M_livesOf 24 = .ok (.iconst 1, 1) := by decide +kernel
theorem d_M_livesOf_25 : decode b_M_livesOf 25 = .ok (.goto (4), 3) := by decide +kernel
theorem d_M_livesOf_28 : decode b_M_livesOf 28 = .ok (.iconst 0, 1) := by decide +kernel
theorem d_M_livesOf_29 : decode b_M_livesOf 29 = .ok (.iadd, 1) := by decide +kernel
theorem d_M_livesOf_30 : decode b_M_livesOf 30 = .ok (.istore_n 2, 1) := by decide +kernel
theorem d_M_livesOf_31 : decode b_M_livesOf 31 = .ok (.iinc 3 1, 3) := by decide +kernel
theorem d_M_livesOf_34 : decode b_M_livesOf 34 = .ok (.goto (-28), 3) := by decide +kernel
theorem d_M_livesOf_37 : decode b_M_livesOf 37 = .ok (.iload_n 2, 1) := by decide +kernel
theorem d_M_livesOf_38 : decode b_M_livesOf 38 = .ok (.ireturn, 1) := by decide +kernel
theorem d_M_erase_0 : decode b_M_erase 0 = .ok (.aload_n 0, 1) := by decide +kernel
theorem d_M_erase_1 : decode b_M_erase 1 = .ok (.invokevirtual 87, 3) := by decide +kernel
theorem d_M_erase_4 : decode b_M_erase 4 = .ok (.ifCond .ne (5), 3) := by decide +kernel
theorem d_M_erase_7 : decode b_M_erase 7 = .ok (.iconst 0, 1) := by decide +kernel
theorem d_M_erase_8 : decode b_M_erase 8 = .ok (.ireturn, 1) := by decide +kernel
theorem d_M_erase_9 : decode b_M_erase 9 = .ok (.iconst 0, 1) := by decide +kernel
theorem d_M_erase_10 : decode b_M_erase 10 = .ok (.istore_n 2, 1) := by decide +kernel
theorem d_M_erase_11 : decode b_M_erase 11 = .ok (.iload_n 2, 1) := by decide +kernel
theorem d_M_erase_12 : decode b_M_erase 12 = .ok (.bipush 64, 2) := by decide +kernel
theorem d_M_erase_14 : decode b_M_erase 14 = .ok (.if_icmp .ge (21), 3) := by decide +kernel
theorem d_M_erase_17 : decode b_M_erase 17 = .ok (.aload_n 0, 1) := by decide +kernel
theorem d_M_erase_18 : decode b_M_erase 18 = .ok (.getfield 7, 3) := by decide +kernel
theorem d_M_erase_21 : decode b_M_erase 21 = .ok (.bipush 64, 2) := by decide +kernel
theorem d_M_erase_23 : decode b_M_erase 23 = .ok (.iload_n 1, 1) := by decide +kernel
theorem d_M_erase_24 : decode b_M_erase 24 = .ok (.imul, 1) := by decide +kernel
theorem d_M_erase_25 : decode b_M_erase 25 = .ok (.iload_n 2, 1) := by decide +kernel
theorem d_M_erase_26 : decode b_M_erase 26 = .ok (.iadd, 1) := by decide +kernel
theorem d_M_erase_27 : decode b_M_erase 27 = .ok (.iconst (-1), 1) := by decide +kernel
theorem d_M_erase_28 : decode b_M_erase 28 = .ok (.iastore, 1) := by decide +kernel
theorem d_M_erase_29 : decode b_M_erase 29 = .ok (.iinc 2 1, 3) := by decide +kernel
theorem d_M_erase_32 : decode b_M_erase 32 = .ok (.goto (-21), 3) := by decide +kernel
theorem d_M_erase_35 : decode b_M_erase 35 = .ok (.aload_n 0, 1) := by decide +kernel
theorem d_M_erase_36 : decode b_M_erase 36 = .ok (.getfield 13, 3) := by decide +kernel
theorem d_M_erase_39 : decode b_M_erase 39 = .ok (.iload_n 1, 1) := by decide +kernel
theorem d_M_erase_40 : decode b_M_erase 40 = .ok (.dup2, 1) := by decide +kernel
theorem d_M_erase_41 : decode b_M_erase 41 = .ok (.iaload, 1) := by decide +kernel
theorem d_M_erase_42 : decode b_M_erase 42 = .ok (.iconst 1, 1) := by decide +kernel
theorem d_M_erase_43 : decode b_M_erase 43 = .ok (.iadd, 1) := by decide +kernel
theorem d_M_erase_44 : decode b_M_erase 44 = .ok (.iastore, 1) := by decide +kernel
theorem d_M_erase_45 : decode b_M_erase 45 = .ok (.iconst 1, 1) := by decide +kernel
theorem d_M_erase_46 : decode b_M_erase 46 = .ok (.ireturn, 1) := by decide +kernel
theorem d_M_write_0 : decode b_M_write 0 = .ok (.aload_n 0, 1) := by decide +kernel
theorem d_M_write_1 : decode b_M_write 1 = .ok (.dup, 1) := by decide +kernel
theorem d_M_write_2 : decode b_M_write 2 = .ok (.getfield 55, 3) := by decide +kernel
theorem d_M_write_5 : decode b_M_write 5 = .ok (.iconst 1, 1) := by decide +kernel
theorem d_M_write_6 : decode b_M_write 6 = .ok (.iadd, 1) := by decide +kernel
theorem d_M_write_7 : decode b_M_write 7 = .ok (.putfield 55, 3) := by decide +kernel
theorem d_M_write_10 : decode b_M_write 10 = .ok (.aload_n 0, 1) := by decide +kernel
theorem d_M_write_11 : decode b_M_write 11 = .ok (.getfield 43, 3) := by decide +kernel
theorem d_M_write_14 : decode b_M_write 14 = .ok (.iconst 1, 1) := by decide +kernel
theorem d_M_write_15 : decode b_M_write 15 = .ok (.aload_n 0, 1) := by decide +kernel
theorem d_M_write_16 : decode b_M_write 16 = .ok (.getfield 55, 3) := by decide +kernel
theorem d_M_write_19 : decode b_M_write 19 = .ok (.iastore, 1) := by decide +kernel
theorem d_M_write_20 : decode b_M_write 20 = .ok (.aload_n 0, 1) := by decide +kernel
theorem d_M_write_21 : decode b_M_write 21 = .ok (.getfield 43, 3) := by decide +kernel
theorem d_M_write_24 : decode b_M_write 24 = .ok (.bipush 14, 2) := by decide +kernel
theorem d_M_write_26 : decode b_M_write 26 = .ok (.aload_n 0, 1) := by decide +kernel
theorem d_M_write_27 : decode b_M_write 27 = .ok (.aload_n 0, 1) := by decide +kernel
theorem d_M_write_28 : decode b_M_write 28 = .ok (.getfield 43, 3) := by decide +kernel
theorem d_M_write_31 : decode b_M_write 31 = .ok (.iconst 0, 1) := by decide +kernel
theorem d_M_write_32 : decode b_M_write 32 = .ok (.bipush 14, 2) := by decide +kernel
theorem d_M_write_34 : decode b_M_write 34 = .ok (.invokevirtual 76, 3) := by decide +kernel
theorem d_M_write_37 : decode b_M_write 37 = .ok (.iastore, 1) := by decide +kernel
theorem d_M_write_38 : decode b_M_write 38 = .ok (.aload_n 0, 1) := by decide +kernel
theorem d_M_write_39 : decode b_M_write 39 = .ok (.getfield 43, 3) := by decide +kernel
theorem d_M_write_42 : decode b_M_write 42 = .ok (.bipush 15, 2) := by decide +kernel
theorem d_M_write_44 : decode b_M_write 44 = .ok (.ldc 75, 2) := by decide +kernel
theorem d_M_write_46 : decode b_M_write 46 = .ok (.iastore, 1) := by decide +kernel
theorem d_M_write_47 : decode b_M_write 47 = .ok (.iconst 0, 1) := by decide +kernel
theorem d_M_write_48 : decode b_M_write 48 = .ok (.istore_n 3, 1) := by decide +kernel
theorem d_M_write_49 : decode b_M_write 49 = .ok (.iload_n 3, 1) := by decide +kernel
theorem d_M_write_50 : decode b_M_write 50 = .ok (.bipush 16, 2) := by decide +kernel
theorem d_M_write_52 : decode b_M_write 52 = .ok (.if_icmp .ge (35), 3) := by decide +kernel
theorem d_M_write_55 : decode b_M_write 55 = .ok (.aload_n 0, 1) := by decide +kernel
theorem d_M_write_56 : decode b_M_write 56 = .ok (.invokevirtual 87, 3) := by decide +kernel
theorem d_M_write_59 : decode b_M_write 59 = .ok (.ifCond .ne (5), 3) := by decide +kernel
theorem d_M_write_62 : decode b_M_write 62 = .ok (.iconst 0, 1) := by decide +kernel
theorem d_M_write_63 : decode b_M_write 63 = .ok (.ireturn, 1) := by decide +kernel
theorem d_M_write_64 : decode b_M_write 64 = .ok (.aload_n 0, 1) := by decide +kernel
theorem d_M_write_65 : decode b_M_write 65 = .ok (.getfield 7, 3) := by decide +kernel
theorem d_M_write_68 : decode b_M_write 68 = .ok (.bipush 16, 2) := by decide +kernel
theorem d_M_write_70 : decode b_M_write 70 = .ok (.iload_n 1, 1) := by decide +kernel
theorem d_M_write_71 : decode b_M_write 71 = .ok (.imul, 1) := by decide +kernel
theorem d_M_write_72 : decode b_M_write 72 = .ok (.iload_n 3, 1) := by decide +kernel
theorem d_M_write_73 : decode b_M_write 73 = .ok (.iadd, 1) := by decide +kernel
theorem d_M_write_74 : decode b_M_write 74 = .ok (.aload_n 0, 1) := by decide +kernel
theorem d_M_write_75 : decode b_M_write 75 = .ok (.getfield 43, 3) := by decide +kernel
theorem d_M_write_78 : decode b_M_write 78 = .ok (.iload_n 3, 1) := by decide +kernel
theorem d_M_write_79 : decode b_M_write 79 = .ok (.iaload, 1) := by decide +kernel
theorem d_M_write_80 : decode b_M_write 80 = .ok (.iastore, 1) := by decide +kernel
theorem d_M_write_81 : decode b_M_write 81 = .ok (.iinc 3 1, 3) := by decide +kernel
theorem d_M_write_84 : decode b_M_write 84 = .ok (.goto (-35), 3) := by decide +kernel
theorem d_M_write_87 : decode b_M_write 87 = .ok (.aload_n 0, 1) := by decide +kernel
theorem d_M_write_88 : decode b_M_write 88 = .ok (.getfield 34, 3) := by decide +kernel
theorem d_M_write_91 : decode b_M_write 91 = .ok (.iload_n 2, 1) := by decide +kernel
theorem d_M_write_92 : decode b_M_write 92 = .ok (.iload_n 1, 1) := by decide +kernel
theorem d_M_write_93 : decode b_M_write 93 = .ok (.iastore, 1) := by decide +kernel
theorem d_M_write_94 : decode b_M_write 94 = .ok (.iconst 1, 1) := by decide +kernel
theorem d_M_write_95 : decode b_M_write 95 = .ok (.ireturn, 1) := by decide +kernel
theorem d_M_victim_0 : decode b_M_victim 0 = .ok (.iconst (-1), 1) := by decide +kernel
theorem d_M_victim_1 : decode b_M_victim 1 = .ok (.istore_n 1, 1) := by decide +kernel
theorem d_M_victim_2 : decode b_M_victim 2 = .ok (.iconst 0, 1) := by decide +kernel
theorem d_M_victim_3 : decode b_M_victim 3 = .ok (.istore_n 2, 1) := by decide +kernel
theorem d_M_victim_4 : decode b_M_victim 4 = .ok (.iload_n 2, 1) := by decide +kernel
theorem d_M_victim_5 : decode b_M_victim 5 = .ok (.bipush 8, 2) := by decide +kernel
theorem d_M_victim_7 : decode b_M_victim 7 = .ok (.if_icmp .ge (45), 3) := by decide +kernel
theorem d_M_victim_10 : decode b_M_victim 10 = .ok (.aload_n 0, 1) := by decide +kernel
theorem d_M_victim_11 : decode b_M_victim 11 = .ok (.getfield 16, 3) := by decide +kernel
theorem d_M_victim_14 : decode b_M_victim 14 = .ok (.iload_n 2, 1) := by decide +kernel
theorem d_M_victim_15 : decode b_M_victim 15 = .ok (.baload, 1) := by decide +kernel
theorem d_M_victim_16 : decode b_M_victim 16 = .ok (.ifCond .ne (30), 3) := by decide +kernel
theorem d_M_victim_19 : decode b_M_victim 19 = .ok (.aload_n 0, 1) := by decide +kernel
theorem d_M_victim_20 : decode b_M_victim 20 = .ok (.iload_n 2, 1) := by decide +kernel
theorem d_M_victim_21 : decode b_M_victim 21 = .ok (.invokevirtual 91, 3) := by decide +kernel
theorem d_M_victim_24 : decode b_M_victim 24 = .ok (.ifCond .le (22), 3) := by decide +kernel
theorem d_M_victim_27 : decode b_M_victim 27 = .ok (.iload_n 1, 1) := by decide +kernel
theorem d_M_victim_28 : decode b_M_victim 28 = .ok (.ifCond .lt (16), 3) := by decide +kernel
theorem d_M_victim_31 : decode b_M_victim 31 = .ok (.aload_n 0, 1) := by decide +kernel
theorem d_M_victim_32 : decode b_M_victim 32 = .ok (.iload_n 2, 1) := by decide +kernel
theorem d_M_victim_33 : decode b_M_victim 33 = .ok (.invokevirtual 91, 3) := by decide +kernel
theorem d_M_victim_36 : decode b_M_victim 36 = .ok (.aload_n 0, 1) := by decide +kernel
theorem d_M_victim_37 : decode b_M_victim 37 = .ok (.iload_n 1, 1) := by decide +kernel
theorem d_M_victim_38 : decode b_M_victim 38 = .ok (.invokevirtual 91, 3) := by decide +kernel
theorem d_M_victim_41 : decode b_M_victim 41 = .ok (.if_icmp .le (5), 3) := by decide +kernel
theorem d_M_victim_44 : decode b_M_victim 44 = .ok (.iload_n 2, 1) := by decide +kernel
theorem d_M_victim_45 : decode b_M_victim 45 = .ok (.istore_n 1, 1) := by decide +kernel
theorem d_M_victim_46 : decode b_M_victim 46 = .ok (.iinc 2 1, 3) := by decide +kernel
theorem d_M_victim_49 : decode b_M_victim 49 = .ok (.goto (-45), 3) := by decide +kernel
theorem d_M_victim_52 : decode b_M_victim 52 = .ok (.iload_n 1, 1) := by decide +kernel
theorem d_M_victim_53 : decode b_M_victim 53 = .ok (.ireturn, 1) := by decide +kernel
theorem d_M_move_0 : decode b_M_move 0 = .ok (.iconst 4, 1) := by decide +kernel
theorem d_M_move_1 : decode b_M_move 1 = .ok (.iload_n 1, 1) := by decide +kernel
theorem d_M_move_2 : decode b_M_move 2 = .ok (.imul, 1) := by decide +kernel
theorem d_M_move_3 : decode b_M_move 3 = .ok (.istore_n 2, 1) := by decide +kernel
theorem d_M_move_4 : decode b_M_move 4 = .ok (.iload_n 2, 1) := by decide +kernel
theorem d_M_move_5 : decode b_M_move 5 = .ok (.iconst 4, 1) := by decide +kernel
theorem d_M_move_6 : decode b_M_move 6 = .ok (.iload_n 1, 1) := by decide +kernel
theorem d_M_move_7 : decode b_M_move 7 = .ok (.imul, 1) := by decide +kernel
theorem d_M_move_8 : decode b_M_move 8 = .ok (.iconst 4, 1) := by decide +kernel
theorem d_M_move_9 : decode b_M_move 9 = .ok (.iadd, 1) := by decide +kernel
theorem d_M_move_10 : decode b_M_move 10 = .ok (.if_icmp .ge (91), 3) := by decide +kernel
theorem d_M_move_13 : decode b_M_move 13 = .ok (.aload_n 0, 1) := by decide +kernel
theorem d_M_move_14 : decode b_M_move 14 = .ok (.iload_n 2, 1) := by decide +kernel
theorem d_M_move_15 : decode b_M_move 15 = .ok (.invokevirtual 84, 3) := by decide +kernel
theorem d_M_move_18 : decode b_M_move 18 = .ok (.ifCond .ne (6), 3) := by decide +kernel
theorem d_M_move_21 : decode b_M_move 21 = .ok (.goto (74), 3) := by decide +kernel
theorem d_M_move_24 : decode b_M_move 24 = .ok (.iconst 0, 1) := by decide +kernel
theorem d_M_move_25 : decode b_M_move 25 = .ok (.istore_n 3, 1) := by decide +kernel
theorem d_M_move_26 : decode b_M_move 26 = .ok (.aload_n 0, 1) := by decide +kernel
theorem d_M_move_27 : decode b_M_move 27 = .ok (.getfield 34, 3) := by decide +kernel
theorem d_M_move_30 : decode b_M_move 30 = .ok (.iload_n 3, 1) := by decide +kernel
theorem d_M_move_31 : decode b_M_move 31 = .ok (.iaload, 1) := by decide +kernel
theorem d_M_move_32 : decode b_M_move 32 = .ok (.iload_n 2, 1) := by decide +kernel
theorem d_M_move_33 : decode b_M_move 33 = .ok (.if_icmp .eq (9), 3) := by decide +kernel
theorem d_M_move_36 : decode b_M_move 36 = .ok (.iinc 3 1, 3) := by decide +kernel
theorem d_M_move_39 : decode b_M_move 39 = .ok (.goto (-13), 3) := by decide +kernel
theorem d_M_move_42 : decode b_M_move 42 = .ok (.iconst 0, 1) := by decide +kernel
theorem d_M_move_43 : decode b_M_move 43 = .ok (.istore 4, 2) := by decide +kernel
theorem d_M_move_45 : decode b_M_move 45 = .ok (.iload 4, 2) := by decide +kernel
