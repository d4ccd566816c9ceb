abbrev b_C_isPowered : ByteArray := prog_2_method_2_code
def y_C_isPowered : MethodName := ⟨R_C, "isPowered", "()Z"⟩
def w_C_isPowered : List Cond := .code y_C_isPowered b_C_isPowered 1 (some (.boolean)) :: gw
abbrev b_C_read : ByteArray := prog_2_method_6_code
def y_C_read : MethodName := ⟨R_C, "read", "(II)I"⟩
def w_C_read : List Cond := .code y_C_read b_C_read 3 (some (.int)) :: gw
abbrev b_C_wearAt : ByteArray := prog_2_method_8_code
def y_C_wearAt : MethodName := ⟨R_C, "wearAt", "(I)I"⟩
def w_C_wearAt : List Cond := .code y_C_wearAt b_C_wearAt 2 (some (.int)) :: gw
abbrev b_C_hasFailed : ByteArray := prog_2_method_10_code
def y_C_hasFailed : MethodName := ⟨R_C, "hasFailed", "(I)Z"⟩
def w_C_hasFailed : List Cond := .code y_C_hasFailed b_C_hasFailed 2 (some (.boolean)) :: gw
abbrev b_C_turnOff : ByteArray := prog_2_method_3_code
def y_C_turnOff : MethodName := ⟨R_C, "turnOff", "()V"⟩
def w_C_turnOff : List Cond := .code y_C_turnOff b_C_turnOff 1 none :: gw
abbrev b_C_turnOn : ByteArray := prog_2_method_4_code
def y_C_turnOn : MethodName := ⟨R_C, "turnOn", "()V"⟩
def w_C_turnOn : List Cond := .code y_C_turnOn b_C_turnOn 1 none :: gw
abbrev b_C_tellCut : ByteArray := prog_2_method_5_code
def y_C_tellCut : MethodName := ⟨R_C, "tellCut", "(I)V"⟩
def w_C_tellCut : List Cond := .code y_C_tellCut b_C_tellCut 2 none :: gw
abbrev b_C_flip : ByteArray := prog_2_method_7_code
def y_C_flip : MethodName := ⟨R_C, "flip", "(III)V"⟩
def w_C_flip : List Cond := .code y_C_flip b_C_flip 4 none :: gw
abbrev b_C_markFailed : ByteArray := prog_2_method_9_code
def y_C_markFailed : MethodName := ⟨R_C, "markFailed", "(I)V"⟩
def w_C_markFailed : List Cond := .code y_C_markFailed b_C_markFailed 2 none :: gw
abbrev b_C_mayStep : ByteArray := prog_2_method_13_code
def y_C_mayStep : MethodName := ⟨R_C, "mayStep", "()Z"⟩
def w_C_mayStep : List Cond := .code y_C_mayStep b_C_mayStep 1 (some (.boolean)) :: gw
abbrev b_C_writePage : ByteArray := prog_2_method_11_code
def y_C_writePage : MethodName := ⟨R_C, "writePage", "(I[I)Z"⟩
def w_C_writePage : List Cond := .code y_C_writePage b_C_writePage 4 (some (.boolean)) :: gw
abbrev b_C_eraseBlock : ByteArray := prog_2_method_12_code
def y_C_eraseBlock : MethodName := ⟨R_C, "eraseBlock", "(I)Z"⟩
def w_C_eraseBlock : List Cond := .code y_C_eraseBlock b_C_eraseBlock 4 (some (.boolean)) :: gw
abbrev b_C_isFree : ByteArray := prog_2_method_14_code
def y_C_isFree : MethodName := ⟨R_C, "isFree", "(I)Z"⟩
def w_C_isFree : List Cond := .code y_C_isFree b_C_isFree 4 (some (.boolean)) :: gw
abbrev b_R_sumOf : ByteArray := prog_1_method_29_code
def y_R_sumOf : MethodName := ⟨R_R, "sumOf", "([III)I"⟩
def w_R_sumOf : List Cond := .code y_R_sumOf b_R_sumOf 5 (some (.int)) :: gw
theorem t_37 : (.fieldLink R_C 22 R_C "powered" "Z" : Cond) ∈ gw := gw_in (tb_1 (List.mem_of_getElem? (i := 37) rfl)) (by first | rfl | decide +kernel)
theorem t_34 : (.fieldLink R_C 9 R_C "words" "[I" : Cond) ∈ gw := gw_in (tb_1 (List.mem_of_getElem? (i := 34) rfl)) (by first | rfl | decide +kernel)
theorem t_35 : (.fieldLink R_C 15 R_C "wear" "[I" : Cond) ∈ gw := gw_in (tb_1 (List.mem_of_getElem? (i := 35) rfl)) (by first | rfl | decide +kernel)
theorem t_36 : (.fieldLink R_C 18 R_C "failed" "[Z" : Cond) ∈ gw := gw_in (tb_1 (List.mem_of_getElem? (i := 36) rfl)) (by first | rfl | decide +kernel)
theorem t_38 : (.fieldLink R_C 26 R_C "stepsToCut" "I" : Cond) ∈ gw := gw_in (tb_1 (List.mem_of_getElem? (i := 38) rfl)) (by first | rfl | decide +kernel)
theorem t_432 : (.methodLink R_C 30 y_C_mayStep : Cond) ∈ gw := gw_in (tb_2 (List.mem_of_getElem? (i := 192) rfl)) (by first | rfl | decide +kernel)
theorem t_435 : (.code y_C_mayStep b_C_mayStep 1 (some (.boolean)) : Cond) ∈ gw := gw_in (tb_2 (List.mem_of_getElem? (i := 195) rfl)) (by first | rfl | decide +kernel)
theorem t_434 : (.instanceMethod y_C_mayStep : Cond) ∈ gw := gw_in (tb_2 (List.mem_of_getElem? (i := 194) rfl)) (by first | rfl | decide +kernel)
theorem t_3 : (.initialized R_C : Cond) ∈ gw := gw_in (tb_1 (List.mem_of_getElem? (i := 3) rfl)) (by first | rfl | decide +kernel)
theorem t_172 : (.constant R_R 219 40503 : Cond) ∈ gw := gw_in (tb_1 (List.mem_of_getElem? (i := 172) rfl)) (by first | rfl | decide +kernel)
theorem s_13 : (.selects R_C y_C_mayStep y_C_mayStep : Cond) ∈ gw := gw_in (tb_s (q := (⟨"WeighRecorder$Chip", "mayStep", "()Z"⟩, _)) (List.mem_of_getElem? (i := 13) rfl)) (by first | rfl | decide +kernel)
theorem d_C_isPowered_0 : decode b_C_isPowered 0 = .ok (.aload_n 0, 1) := by decide +kernel
theorem d_C_isPowered_1 : decode b_C_isPowered 1 = .ok (.getfield 22, 3) := by decide +kernel
theorem d_C_isPowered_4 : decode b_C_isPowered 4 = .ok (.ireturn, 1) := by decide +kernel
theorem d_C_read_0 : decode b_C_read 0 = .ok (.aload_n 0, 1) := by decide +kernel
theorem d_C_read_1 : decode b_C_read 1 = .ok (.getfield 9, 3) := by decide +kernel
theorem d_C_read_4 : decode b_C_read 4 = .ok (.iload_n 1, 1) := by decide +kernel
theorem d_C_read_5 : decode b_C_read 5 = .ok (.bipush 16, 2) := by decide +kernel
theorem d_C_read_7 : decode b_C_read 7 = .ok (.imul, 1) := by decide +kernel
theorem d_C_read_8 : decode b_C_read 8 = .ok (.iload_n 2, 1) := by decide +kernel
theorem d_C_read_9 : decode b_C_read 9 = .ok (.iadd, 1) := by decide +kernel
theorem d_C_read_10 : decode b_C_read 10 = .ok (.iaload, 1) := by decide +kernel
theorem d_C_read_11 : decode b_C_read 11 = .ok (.ireturn, 1) := by decide +kernel
theorem d_C_wearAt_0 : decode b_C_wearAt 0 = .ok (.aload_n 0, 1) := by decide +kernel
theorem d_C_wearAt_1 : decode b_C_wearAt 1 = .ok (.getfield 15, 3) := by decide +kernel
theorem d_C_wearAt_4 : decode b_C_wearAt 4 = .ok (.iload_n 1, 1) := by decide +kernel
theorem d_C_wearAt_5 : decode b_C_wearAt 5 = .ok (.iaload, 1) := by decide +kernel
theorem d_C_wearAt_6 : decode b_C_wearAt 6 = .ok (.ireturn, 1) := by decide +kernel
theorem d_C_hasFailed_0 : decode b_C_hasFailed 0 = .ok (.aload_n 0, 1) := by decide +kernel
theorem d_C_hasFailed_1 : decode b_C_hasFailed 1 = .ok (.getfield 18, 3) := by decide +kernel
theorem d_C_hasFailed_4 : decode b_C_hasFailed 4 = .ok (.iload_n 1, 1) := by decide +kernel
theorem d_C_hasFailed_5 : decode b_C_hasFailed 5 = .ok (.baload, 1) := by decide +kernel
theorem d_C_hasFailed_6 : decode b_C_hasFailed 6 = .ok (.ireturn, 1) := by decide +kernel
theorem d_C_turnOff_0 : decode b_C_turnOff 0 = .ok (.aload_n 0, 1) := by decide +kernel
theorem d_C_turnOff_1 : decode b_C_turnOff 1 = .ok (.iconst 0, 1) := by decide +kernel
theorem d_C_turnOff_2 : decode b_C_turnOff 2 = .ok (.putfield 22, 3) := by decide +kernel
theorem d_C_turnOff_5 : decode b_C_turnOff 5 = .ok (.aload_n 0, 1) := by decide +kernel
theorem d_C_turnOff_6 : decode b_C_turnOff 6 = .ok (.iconst (-1), 1) := by decide +kernel
theorem d_C_turnOff_7 : decode b_C_turnOff 7 = .ok (.putfield 26, 3) := by decide +kernel
theorem d_C_turnOff_10 : decode b_C_turnOff 10 = .ok (.return_, 1) := by decide +kernel
theorem d_C_turnOn_0 : decode b_C_turnOn 0 = .ok (.aload_n 0, 1) := by decide +kernel
theorem d_C_turnOn_1 : decode b_C_turnOn 1 = .ok (.iconst 1, 1) := by decide +kernel
theorem d_C_turnOn_2 : decode b_C_turnOn 2 = .ok (.putfield 22, 3) := by decide +kernel
theorem d_C_turnOn_5 : decode b_C_turnOn 5 = .ok (.return_, 1) := by decide +kernel
theorem d_C_tellCut_0 : decode b_C_tellCut 0 = .ok (.aload_n 0, 1) := by decide +kernel
theorem d_C_tellCut_1 : decode b_C_tellCut 1 = .ok (.iload_n 1, 1) := by decide +kernel
theorem d_C_tellCut_2 : decode b_C_tellCut 2 = .ok (.putfield 26, 3) := by decide +kernel
theorem d_C_tellCut_5 : decode b_C_tellCut 5 = .ok (.return_, 1) := by decide +kernel
theorem d_C_flip_0 : decode b_C_flip 0 = .ok (.aload_n 0, 1) := by decide +kernel
theorem d_C_flip_1 : decode b_C_flip 1 = .ok (.getfield 9, 3) := by decide +kernel
theorem d_C_flip_4 : decode b_C_flip 4 = .ok (.iload_n 1, 1) := by decide +kernel
theorem d_C_flip_5 : decode b_C_flip 5 = .ok (.bipush 16, 2) := by decide +kernel
theorem d_C_flip_7 : decode b_C_flip 7 = .ok (.imul, 1) := by decide +kernel
theorem d_C_flip_8 : decode b_C_flip 8 = .ok (.iload_n 2, 1) := by decide +kernel
theorem d_C_flip_9 : decode b_C_flip 9 = .ok (.iadd, 1) := by decide +kernel
theorem d_C_flip_10 : decode b_C_flip 10 = .ok (.dup2, 1) := by decide +kernel
theorem d_C_flip_11 : decode b_C_flip 11 = .ok (.iaload, 1) := by decide +kernel
theorem d_C_flip_12 : decode b_C_flip 12 = .ok (.iload_n 3, 1) := by decide +kernel
theorem d_C_flip_13 : decode b_C_flip 13 = .ok (.ixor, 1) := by decide +kernel
theorem d_C_flip_14 : decode b_C_flip 14 = .ok (.iastore, 1) := by decide +kernel
theorem d_C_flip_15 : decode b_C_flip 15 = .ok (.return_, 1) := by decide +kernel
theorem d_C_markFailed_0 : decode b_C_markFailed 0 = .ok (.aload_n 0, 1) := by decide +kernel
theorem d_C_markFailed_1 : decode b_C_markFailed 1 = .ok (.getfield 18, 3) := by decide +kernel
theorem d_C_markFailed_4 : decode b_C_markFailed 4 = .ok (.iload_n 1, 1) := by decide +kernel
theorem d_C_markFailed_5 : decode b_C_markFailed 5 = .ok (.iconst 1, 1) := by decide +kernel
theorem d_C_markFailed_6 : decode b_C_markFailed 6 = .ok (.bastore, 1) := by decide +kernel
theorem d_C_markFailed_7 : decode b_C_markFailed 7 = .ok (.return_, 1) := by decide +kernel
theorem d_C_mayStep_0 : decode b_C_mayStep 0 = .ok (.aload_n 0, 1) := by decide +kernel
theorem d_C_mayStep_1 : decode b_C_mayStep 1 = .ok (.getfield 26, 3) := by decide +kernel
theorem d_C_mayStep_4 : decode b_C_mayStep 4 = .ok (.ifCond .ne (16), 3) := by decide +kernel
theorem d_C_mayStep_7 : decode b_C_mayStep 7 = .ok (.aload_n 0, 1) := by decide +kernel
theorem d_C_mayStep_8 : decode b_C_mayStep 8 = .ok (.iconst 0, 1) := by decide +kernel
theorem d_C_mayStep_9 : decode b_C_mayStep 9 = .ok (.putfield 22, 3) := by decide +kernel
theorem d_C_mayStep_12 : decode b_C_mayStep 12 = .ok (.aload_n 0, 1) := by decide +kernel
theorem d_C_mayStep_13 : decode b_C_mayStep 13 = .ok (.iconst (-1), 1) := by decide +kernel
theorem d_C_mayStep_14 : decode b_C_mayStep 14 = .ok (.putfield 26, 3) := by decide +kernel
theorem d_C_mayStep_17 : decode b_C_mayStep 17 = .ok (.goto (20), 3) := by decide +kernel
theorem d_C_mayStep_20 : decode b_C_mayStep 20 = .ok (.aload_n 0, 1) := by decide +kernel
theorem d_C_mayStep_21 : decode b_C_mayStep 21 = .ok (.getfield 26, 3) := by decide +kernel
theorem d_C_mayStep_24 : decode b_C_mayStep 24 = .ok (.ifCond .le (13), 3) := by decide +kernel
theorem d_C_mayStep_27 : decode b_C_mayStep 27 = .ok (.aload_n 0, 1) := by decide +kernel
theorem d_C_mayStep_28 : decode b_C_mayStep 28 = .ok (.dup, 1) := by decide +kernel
theorem d_C_mayStep_29 : decode b_C_mayStep 29 = .ok (.getfield 26, 3) := by decide +kernel
theorem d_C_mayStep_32 : decode b_C_mayStep 32 = .ok (.iconst 1, 1) := by decide +kernel
theorem d_C_mayStep_33 : decode b_C_mayStep 33 = .ok (.isub, 1) := by decide +kernel
theorem d_C_mayStep_34 : decode b_C_mayStep 34 = .ok (.putfield 26, 3) := by decide +kernel
theorem d_C_mayStep_37 : decode b_C_mayStep 37 = .ok (.aload_n 0, 1) := by decide +kernel
theorem d_C_mayStep_38 : decode b_C_mayStep 38 = .ok (.getfield 22, 3) := by decide +kernel
theorem d_C_mayStep_41 : decode b_C_mayStep 41 = .ok (.ireturn, 1) := by decide +kernel
theorem d_C_writePage_0 : decode b_C_writePage 0 = .ok (.iconst 0, 1) := by decide +kernel
theorem d_C_writePage_1 : decode b_C_writePage 1 = .ok (.istore_n 3, 1) := by decide +kernel
theorem d_C_writePage_2 : decode b_C_writePage 2 = .ok (.iload_n 3, 1) := by decide +kernel
theorem d_C_writePage_3 : decode b_C_writePage 3 = .ok (.bipush 16, 2) := by decide +kernel
theorem d_C_writePage_5 : decode b_C_writePage 5 = .ok (.if_icmp .ge (32), 3) := by decide +kernel
theorem d_C_writePage_8 : decode b_C_writePage 8 = .ok (.aload_n 0, 1) := by decide +kernel
theorem d_C_writePage_9 : decode b_C_writePage 9 = .ok (.invokevirtual 30, 3) := by decide +kernel
theorem d_C_writePage_12 : decode b_C_writePage 12 = .ok (.ifCond .ne (5), 3) := by decide +kernel
theorem d_C_writePage_15 : decode b_C_writePage 15 = .ok (.iconst 0, 1) := by decide +kernel
theorem d_C_writePage_16 : decode b_C_writePage 16 = .ok (.ireturn, 1) := by decide +kernel
theorem d_C_writePage_17 : decode b_C_writePage 17 = .ok (.aload_n 0, 1) := by decide +kernel
theorem d_C_writePage_18 : decode b_C_writePage 18 = .ok (.getfield 9, 3) := by decide +kernel
theorem d_C_writePage_21 : decode b_C_writePage 21 = .ok (.iload_n 1, 1) := by decide +kernel
theorem d_C_writePage_22 : decode b_C_writePage 22 = .ok (.bipush 16, 2) := by decide +kernel
theorem d_C_writePage_24 : decode b_C_writePage 24 = .ok (.imul, 1) := by decide +kernel
theorem d_C_writePage_25 : decode b_C_writePage 25 = .ok (.iload_n 3, 1) := by decide +kernel
theorem d_C_writePage_26 : decode b_C_writePage 26 = .ok (.iadd, 1) := by decide +kernel
theorem d_C_writePage_27 : decode b_C_writePage 27 = .ok (.aload_n 2, 1) := by decide +kernel
theorem d_C_writePage_28 : decode b_C_writePage 28 = .ok (.iload_n 3, 1) := by decide +kernel
theorem d_C_writePage_29 : decode b_C_writePage 29 = .ok (.iaload, 1) := by decide +kernel
theorem d_C_writePage_30 : decode b_C_writePage 30 = .ok (.iastore, 1) := by decide +kernel
theorem d_C_writePage_31 : decode b_C_writePage 31 = .ok (.iinc 3 1, 3) := by decide +kernel
theorem d_C_writePage_34 : decode b_C_writePage 34 = .ok (.goto (-32), 3) := by decide +kernel
theorem d_C_writePage_37 : decode b_C_writePage 37 = .ok (.iconst 1, 1) := by decide +kernel
theorem d_C_writePage_38 : decode b_C_writePage 38 = .ok (.ireturn, 1) := by decide +kernel
theorem d_C_eraseBlock_0 : decode b_C_eraseBlock 0 = .ok (.aload_n 0, 1) := by decide +kernel
theorem d_C_eraseBlock_1 : decode b_C_eraseBlock 1 = .ok (.invokevirtual 30, 3) := by decide +kernel
theorem d_C_eraseBlock_4 : decode b_C_eraseBlock 4 = .ok (.ifCond .ne (5), 3) := by decide +kernel
theorem d_C_eraseBlock_7 : decode b_C_eraseBlock 7 = .ok (.iconst 0, 1) := by decide +kernel
theorem d_C_eraseBlock_8 : decode b_C_eraseBlock 8 = .ok (.ireturn, 1) := by decide +kernel
theorem d_C_eraseBlock_9 : decode b_C_eraseBlock 9 = .ok (.iload_n 1, 1) := by decide +kernel
theorem d_C_eraseBlock_10 : decode b_C_eraseBlock 10 = .ok (.iconst 4, 1) := by decide +kernel
theorem d_C_eraseBlock_11 : decode b_C_eraseBlock 11 = .ok (.imul, 1) := by decide +kernel
theorem d_C_eraseBlock_12 : decode b_C_eraseBlock 12 = .ok (.bipush 16, 2) := by decide +kernel
theorem d_C_eraseBlock_14 : decode b_C_eraseBlock 14 = .ok (.imul, 1) := by decide +kernel
theorem d_C_eraseBlock_15 : decode b_C_eraseBlock 15 = .ok (.istore_n 2, 1) := by decide +kernel
theorem d_C_eraseBlock_16 : decode b_C_eraseBlock 16 = .ok (.iconst 0, 1) := by decide +kernel
theorem d_C_eraseBlock_17 : decode b_C_eraseBlock 17 = .ok (.istore_n 3, 1) := by decide +kernel
theorem d_C_eraseBlock_18 : decode b_C_eraseBlock 18 = .ok (.iload_n 3, 1) := by decide +kernel
theorem d_C_eraseBlock_19 : decode b_C_eraseBlock 19 = .ok (.bipush 64, 2) := by decide +kernel
theorem d_C_eraseBlock_21 : decode b_C_eraseBlock 21 = .ok (.if_icmp .ge (18), 3) := by decide +kernel
theorem d_C_eraseBlock_24 : decode b_C_eraseBlock 24 = .ok (.aload_n 0, 1) := by decide +kernel
theorem d_C_eraseBlock_25 : decode b_C_eraseBlock 25 = .ok (.getfield 9, 3) := by decide +kernel
theorem d_C_eraseBlock_28 : decode b_C_eraseBlock 28 = .ok (.iload_n 2, 1) := by decide +kernel
theorem d_C_eraseBlock_29 : decode b_C_eraseBlock 29 = .ok (.iload_n 3, 1) := by decide +kernel
theorem d_C_eraseBlock_30 : decode b_C_eraseBlock 30 = .ok (.iadd, 1) := by decide +kernel
theorem d_C_eraseBlock_31 : decode b_C_eraseBlock 31 = .ok (.iconst (-1), 1) := by decide +kernel
theorem d_C_eraseBlock_32 : decode b_C_eraseBlock 32 = .ok (.iastore, 1) := by decide +kernel
theorem d_C_eraseBlock_33 : decode b_C_eraseBlock 33 = .ok (.iinc 3 1, 3) := by decide +kernel
theorem d_C_eraseBlock_36 : decode b_C_eraseBlock 36 = .ok (.goto (-18), 3) := by decide +kernel
theorem d_C_eraseBlock_39 : decode b_C_eraseBlock 39 = .ok (.aload_n 0, 1) := by decide +kernel
theorem d_C_eraseBlock_40 : decode b_C_eraseBlock 40 = .ok (.getfield 15, 3) := by decide +kernel
theorem d_C_eraseBlock_43 : decode b_C_eraseBlock 43 = .ok (.iload_n 1, 1) := by decide +kernel
theorem d_C_eraseBlock_44 : decode b_C_eraseBlock 44 = .ok (.dup2, 1) := by decide +kernel
theorem d_C_eraseBlock_45 : decode b_C_eraseBlock 45 = .ok (.iaload, 1) := by decide +kernel
theorem d_C_eraseBlock_46 : decode b_C_eraseBlock 46 = .ok (.iconst 1, 1) := by decide +kernel
theorem d_C_eraseBlock_47 : decode b_C_eraseBlock 47 = .ok (.iadd, 1) := by decide +kernel
theorem d_C_eraseBlock_48 : decode b_C_eraseBlock 48 = .ok (.iastore, 1) := by decide +kernel
theorem d_C_eraseBlock_49 : decode b_C_eraseBlock 49 = .ok (.iconst 1, 1) := by decide +kernel
theorem d_C_eraseBlock_50 : decode b_C_eraseBlock 50 = .ok (.ireturn, 1) := by decide +kernel
theorem d_C_isFree_0 : decode b_C_isFree 0 = .ok (.iload_n 1, 1) := by decide +kernel
theorem d_C_isFree_1 : decode b_C_isFree 1 = .ok (.bipush 16, 2) := by decide +kernel
theorem d_C_isFree_3 : decode b_C_isFree 3 = .ok (.imul, 1) := by decide +kernel
theorem d_C_isFree_4 : decode b_C_isFree 4 = .ok (.istore_n 2, 1) := by decide +kernel
theorem d_C_isFree_5 : decode b_C_isFree 5 = .ok (.iload_n 2, 1) := by decide +kernel
theorem d_C_isFree_6 : decode b_C_isFree 6 = .ok (.istore_n 3, 1) := by decide +kernel
theorem d_C_isFree_7 : decode b_C_isFree 7 = .ok (.iload_n 3, 1) := by decide +kernel
theorem d_C_isFree_8 : decode b_C_isFree 8 = .ok (.iload_n 2, 1) := by decide +kernel
theorem d_C_isFree_9 : decode b_C_isFree 9 = .ok (.bipush 16, 2) := by decide +kernel
theorem d_C_isFree_11 : decode b_C_isFree 11 = .ok (.iadd, 1) := by decide +kernel
theorem d_C_isFree_12 : decode b_C_isFree 12 = .ok (.if_icmp .ge (21), 3) := by decide +kernel
theorem d_C_isFree_15 : decode b_C_isFree 15 = .ok (.aload_n 0, 1) := by decide +kernel
theorem d_C_isFree_16 : decode b_C_isFree 16 = .ok (.getfield 9, 3) := by decide +kernel
theorem d_C_isFree_19 : decode b_C_isFree 19 = .ok (.iload_n 3, 1) := by decide +kernel
theorem d_C_isFree_20 : decode b_C_isFree 20 = .ok (.iaload, 1) := by decide +kernel
theorem d_C_isFree_21 : decode b_C_isFree 21 = .ok (.iconst (-1), 1) := by decide +kernel
theorem d_C_isFree_22 : decode b_C_isFree 22 = .ok (.if_icmp .eq (5), 3) := by decide +kernel
theorem d_C_isFree_25 : decode b_C_isFree 25 = .ok (.iconst 0, 1) := by decide +kernel
theorem d_C_isFree_26 : decode b_C_isFree 26 = .ok (.ireturn, 1) := by decide +kernel
theorem d_C_isFree_27 : decode b_C_isFree 27 = .ok (.iinc 3 1, 3) := by decide +kernel
theorem d_C_isFree_30 : decode b_C_isFree 30 = .ok (.goto (-23), 3) := by decide +kernel
theorem d_C_isFree_33 : decode b_C_isFree 33 = .ok (.iconst 1, 1) := by decide +kernel
theorem d_C_isFree_34 : decode b_C_isFree 34 = .ok (.ireturn, 1) := by decide +kernel
theorem d_R_sumOf_0 : decode b_R_sumOf 0 = .ok (.sipush 7989, 3) := by decide +kernel
theorem d_R_sumOf_3 : decode b_R_sumOf 3 = .ok (.istore_n 3, 1) := by decide +kernel
theorem d_R_sumOf_4 : decode b_R_sumOf 4 = .ok (.iload_n 1, 1) := by decide +kernel
theorem d_R_sumOf_5 : decode b_R_sumOf 5 = .ok (.istore 4, 2) := by decide +kernel
theorem d_R_sumOf_7 : decode b_R_sumOf 7 = .ok (.iload 4, 2) := by decide +kernel
theorem d_R_sumOf_9 : decode b_R_sumOf 9 = .ok (.iload_n 1, 1) := by decide +kernel
theorem d_R_sumOf_10 : decode b_R_sumOf 10 = .ok (.iload_n 2, 1) := by decide +kernel
theorem d_R_sumOf_11 : decode b_R_sumOf 11 = .ok (.iadd, 1) := by decide +kernel
theorem d_R_sumOf_12 : decode b_R_sumOf 12 = .ok (.if_icmp .ge (30), 3) := by decide +kernel
theorem d_R_sumOf_15 : decode b_R_sumOf 15 = .ok (.iload_n 3, 1) := by decide +kernel
theorem d_R_sumOf_16 : decode b_R_sumOf 16 = .ok (.aload_n 0, 1) := by decide +kernel
theorem d_R_sumOf_17 : decode b_R_sumOf 17 = .ok (.iload 4, 2) := by decide +kernel
theorem d_R_sumOf_19 : decode b_R_sumOf 19 = .ok (.iaload, 1) := by decide +kernel
theorem d_R_sumOf_20 : decode b_R_sumOf 20 = .ok (.ixor, 1) := by decide +kernel
theorem d_R_sumOf_21 : decode b_R_sumOf 21 = .ok (.istore_n 3, 1) := by decide +kernel
theorem d_R_sumOf_22 : decode b_R_sumOf 22 = .ok (.iload_n 3, 1) := by decide +kernel
theorem d_R_sumOf_23 : decode b_R_sumOf 23 = .ok (.iconst 5, 1) := by decide +kernel
theorem d_R_sumOf_24 : decode b_R_sumOf 24 = .ok (.ishl, 1) := by decide +kernel
theorem d_R_sumOf_25 : decode b_R_sumOf 25 = .ok (.iload_n 3, 1) := by decide +kernel
theorem d_R_sumOf_26 : decode b_R_sumOf 26 = .ok (.bipush 27, 2) := by decide +kernel
theorem d_R_sumOf_28 : decode b_R_sumOf 28 = .ok (.iushr, 1) := by decide +kernel
theorem d_R_sumOf_29 : decode b_R_sumOf 29 = .ok (.ior, 1) := by decide +kernel
theorem d_R_sumOf_30 : decode b_R_sumOf 30 = .ok (.istore_n 3, 1) := by decide +kernel
theorem d_R_sumOf_31 : decode b_R_sumOf 31 = .ok (.iload_n 3, 1) := by decide +kernel
theorem d_R_sumOf_32 : decode b_R_sumOf 32 = .ok (.ldc 219, 2) := by decide +kernel
theorem d_R_sumOf_34 : decode b_R_sumOf 34 = .ok (.iadd, 1) := by decide +kernel
theorem d_R_sumOf_35 : decode b_R_sumOf 35 = .ok (.istore_n 3, 1) := by decide +kernel
theorem d_R_sumOf_36 : decode b_R_sumOf 36 = .ok (.iinc 4 1, 3) := by decide +kernel
theorem d_R_sumOf_39 : decode b_R_sumOf 39 = .ok (.goto (-32), 3) := by decide +kernel
theorem d_R_sumOf_42 : decode b_R_sumOf 42 = .ok (.iload_n 3, 1) := by decide +kernel
theorem d_R_sumOf_43 : decode b_R_sumOf 43 = .ok (.ireturn, 1) := by decide +kernel
