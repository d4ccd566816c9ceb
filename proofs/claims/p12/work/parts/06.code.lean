abbrev b_C_isPowered : ByteArray := prog_2_method_2_code
def y_C_isPowered : MethodName := ⟨R_C, "isPowered", "()Z"⟩
def w_C_isPowered : List Cond := .code y_C_isPowered b_C_isPowered 1 (some (.boolean)) :: gw
abbrev b_C_read : ByteArray := prog_2_method_6_code
def y_C_read : MethodName := ⟨R_C, "read", "(II)I"⟩
def w_C_read : List Cond := .code y_C_read b_C_read 3 (some (.int)) :: gw
abbrev b_C_wearAt : ByteArray := prog_2_method_8_code
def y_C_wearAt : MethodName := ⟨R_C, "wearAt", "(I)I"⟩
def w_C_wearAt : List Cond := .code y_C_wearAt b_C_wearAt 2 (some (.int)) :: gw
abbrev b_C_hasFailed : ByteArray := prog_2_method_10_code
def y_C_hasFailed : MethodName := ⟨R_C, "hasFailed", "(I)Z"⟩
def w_C_hasFailed : List Cond := .code y_C_hasFailed b_C_hasFailed 2 (some (.boolean)) :: gw
abbrev b_C_turnOff : ByteArray := prog_2_method_3_code
def y_C_turnOff : MethodName := ⟨R_C, "turnOff", "()V"⟩
def w_C_turnOff : List Cond := .code y_C_turnOff b_C_turnOff 1 none :: gw
abbrev b_C_turnOn : ByteArray := prog_2_method_4_code
def y_C_turnOn : MethodName := ⟨R_C, "turnOn", "()V"⟩
def w_C_turnOn : List Cond := .code y_C_turnOn b_C_turnOn 1 none :: gw
abbrev b_C_tellCut : ByteArray := prog_2_method_5_code
def y_C_tellCut : MethodName := ⟨R_C, "tellCut", "(I)V"⟩
def w_C_tellCut : List Cond := .code y_C_tellCut b_C_tellCut 2 none :: gw
abbrev b_C_flip : ByteArray := prog_2_method_7_code
def y_C_flip : MethodName := ⟨R_C, "flip", "(III)V"⟩
def w_C_flip : List Cond := .code y_C_flip b_C_flip 4 none :: gw
abbrev b_C_markFailed : ByteArray := prog_2_method_9_code
def y_C_markFailed : MethodName := ⟨R_C, "markFailed", "(I)V"⟩
def w_C_markFailed : List Cond := .code y_C_markFailed b_C_markFailed 2 none :: gw
abbrev b_C_mayStep : ByteArray := prog_2_method_13_code
def y_C_mayStep : MethodName := ⟨R_C, "mayStep", "()Z"⟩
def w_C_mayStep : List Cond := .code y_C_mayStep b_C_mayStep 1 (some (.boolean)) :: gw
abbrev b_C_writePage : ByteArray := prog_2_method_11_code
def y_C_writePage : MethodName := ⟨R_C, "writePage", "(I[I)Z"⟩
def w_C_writePage : List Cond := .code y_C_writePage b_C_writePage 4 (some (.boolean)) :: gw
theorem t_37 : (.fieldLink R_C 22 R_C "powered" "Z" : Cond) ∈ gw := gw_in (tb_1 (List.mem_of_getElem? (i := 37) rfl)) (by first | rfl | decide +kernel)
theorem t_34 : (.fieldLink R_C 9 R_C "words" "[I" : Cond) ∈ gw := gw_in (tb_1 (List.mem_of_getElem? (i := 34) rfl)) (by first | rfl | decide +kernel)
theorem t_35 : (.fieldLink R_C 15 R_C "wear" "[I" : Cond) ∈ gw := gw_in (tb_1 (List.mem_of_getElem? (i := 35) rfl)) (by first | rfl | decide +kernel)
theorem t_36 : (.fieldLink R_C 18 R_C "failed" "[Z" : Cond) ∈ gw := gw_in (tb_1 (List.mem_of_getElem? (i := 36) rfl)) (by first | rfl | decide +kernel)
theorem t_38 : (.fieldLink R_C 26 R_C "stepsToCut" "I" : Cond) ∈ gw := gw_in (tb_1 (List.mem_of_getElem? (i := 38) rfl)) (by first | rfl | decide +kernel)
theorem t_432 : (.methodLink R_C 30 y_C_mayStep : Cond) ∈ gw := gw_in (tb_2 (List.mem_of_getElem? (i := 192) rfl)) (by first | rfl | decide +kernel)
theorem t_435 : (.code y_C_mayStep b_C_mayStep 1 (some (.boolean)) : Cond) ∈ gw := gw_in (tb_2 (List.mem_of_getElem? (i := 195) rfl)) (by first | rfl | decide +kernel)
theorem t_434 : (.instanceMethod y_C_mayStep : Cond) ∈ gw := gw_in (tb_2 (List.mem_of_getElem? (i := 194) rfl)) (by first | rfl | decide +kernel)
theorem t_3 : (.initialized R_C : Cond) ∈ gw := gw_in (tb_1 (List.mem_of_getElem? (i := 3) rfl)) (by first | rfl | decide +kernel)
theorem s_13 : (.selects R_C y_C_mayStep y_C_mayStep : Cond) ∈ gw := gw_in (tb_s (q := (⟨"WeighRecorder$Chip", "mayStep", "()Z"⟩, _)) (List.mem_of_getElem? (i := 13) rfl)) (by first | rfl | decide +kernel)
theorem d_C_isPowered_0 : decode b_C_isPowered 0 = .ok (.aload_n 0, 1) := by decide +kernel
theorem d_C_isPowered_1 : decode b_C_isPowered 1 = .ok (.getfield 22, 3) := by decide +kernel
theorem d_C_isPowered_4 : decode b_C_isPowered 4 = .ok (.ireturn, 1) := by decide +kernel
theorem d_C_read_0 : decode b_C_read 0 = .ok (.aload_n 0, 1) := by decide +kernel
theorem d_C_read_1 : decode b_C_read 1 = .ok (.getfield 9, 3) := by decide +kernel
theorem d_C_read_4 : decode b_C_read 4 = .ok (.iload_n 1, 1) := by decide +kernel
theorem d_C_read_5 : decode b_C_read 5 = .ok (.bipush 16, 2) := by decide +kernel
theorem d_C_read_7 : decode b_C_read 7 = .ok (.imul, 1) := by decide +kernel
theorem d_C_read_8 : decode b_C_read 8 = .ok (.iload_n 2, 1) := by decide +kernel
theorem d_C_read_9 : decode b_C_read 9 = .ok (.iadd, 1) := by decide +kernel
theorem d_C_read_10 : decode b_C_read 10 = .ok (.iaload, 1) := by decide +kernel
theorem d_C_read_11 : decode b_C_read 11 = .ok (.ireturn, 1) := by decide +kernel
theorem d_C_wearAt_0 : decode b_C_wearAt 0 = .ok (.aload_n 0, 1) := by decide +kernel
theorem d_C_wearAt_1 : decode b_C_wearAt 1 = .ok (.getfield 15, 3) := by decide +kernel
theorem d_C_wearAt_4 : decode b_C_wearAt 4 = .ok (.iload_n 1, 1) := by decide +kernel
theorem d_C_wearAt_5 : decode b_C_wearAt 5 = .ok (.iaload, 1) := by decide +kernel
theorem d_C_wearAt_6 : decode b_C_wearAt 6 = .ok (.ireturn, 1) := by decide +kernel
theorem d_C_hasFailed_0 : decode b_C_hasFailed 0 = .ok (.aload_n 0, 1) := by decide +kernel
theorem d_C_hasFailed_1 : decode b_C_hasFailed 1 = .ok (.getfield 18, 3) := by decide +kernel
theorem d_C_hasFailed_4 : decode b_C_hasFailed 4 = .ok (.iload_n 1, 1) := by decide +kernel
theorem d_C_hasFailed_5 : decode b_C_hasFailed 5 = .ok (.baload, 1) := by decide +kernel
theorem d_C_hasFailed_6 : decode b_C_hasFailed 6 = .ok (.ireturn, 1) := by decide +kernel
theorem d_C_turnOff_0 : decode b_C_turnOff 0 = .ok (.aload_n 0, 1) := by decide +kernel
theorem d_C_turnOff_1 : decode b_C_turnOff 1 = .ok (.iconst 0, 1) := by decide +kernel
theorem d_C_turnOff_2 : decode b_C_turnOff 2 = .ok (.putfield 22, 3) := by decide +kernel
theorem d_C_turnOff_5 : decode b_C_turnOff 5 = .ok (.aload_n 0, 1) := by decide +kernel
theorem d_C_turnOff_6 : decode b_C_turnOff 6 = .ok (.iconst (-1), 1) := by decide +kernel
theorem d_C_turnOff_7 : decode b_C_turnOff 7 = .ok (.putfield 26, 3) := by decide +kernel
theorem d_C_turnOff_10 : decode b_C_turnOff 10 = .ok (.return_, 1) := by decide +kernel
theorem d_C_turnOn_0 : decode b_C_turnOn 0 = .ok (.aload_n 0, 1) := by decide +kernel
theorem d_C_turnOn_1 : decode b_C_turnOn 1 = .ok (.iconst 1, 1) := by decide +kernel
theorem d_C_turnOn_2 : decode b_C_turnOn 2 = .ok (.putfield 22, 3) := by decide +kernel
theorem d_C_turnOn_5 : decode b_C_turnOn 5 = .ok (.return_, 1) := by decide +kernel
theorem d_C_tellCut_0 : decode b_C_tellCut 0 = .ok (.aload_n 0, 1) := by decide +kernel
theorem d_C_tellCut_1 : decode b_C_tellCut 1 = .ok (.iload_n 1, 1) := by decide +kernel
theorem d_C_tellCut_2 : decode b_C_tellCut 2 = .ok (.putfield 26, 3) := by decide +kernel
theorem d_C_tellCut_5 : decode b_C_tellCut 5 = .ok (.return_, 1) := by decide +kernel
theorem d_C_flip_0 : decode b_C_flip 0 = .ok (.aload_n 0, 1) := by decide +kernel
theorem d_C_flip_1 : decode b_C_flip 1 = .ok (.getfield 9, 3) := by decide +kernel
theorem d_C_flip_4 : decode b_C_flip 4 = .ok (.iload_n 1, 1) := by decide +kernel
theorem d_C_flip_5 : decode b_C_flip 5 = .ok (.bipush 16, 2) := by decide +kernel
theorem d_C_flip_7 : decode b_C_flip 7 = .ok (.imul, 1) := by decide +kernel
theorem d_C_flip_8 : decode b_C_flip 8 = .ok (.iload_n 2, 1) := by decide +kernel
theorem d_C_flip_9 : decode b_C_flip 9 = .ok (.iadd, 1) := by decide +kernel
theorem d_C_flip_10 : decode b_C_flip 10 = .ok (.dup2, 1) := by decide +kernel
theorem d_C_flip_11 : decode b_C_flip 11 = .ok (.iaload, 1) := by decide +kernel
theorem d_C_flip_12 : decode b_C_flip 12 = .ok (.iload_n 3, 1) := by decide +kernel
theorem d_C_flip_13 : decode b_C_flip 13 = .ok (.ixor, 1) := by decide +kernel
theorem d_C_flip_14 : decode b_C_flip 14 = .ok (.iastore, 1) := by decide +kernel
theorem d_C_flip_15 : decode b_C_flip 15 = .ok (.return_, 1) := by decide +kernel
theorem d_C_markFailed_0 : decode b_C_markFailed 0 = .ok (.aload_n 0, 1) := by decide +kernel
theorem d_C_markFailed_1 : decode b_C_markFailed 1 = .ok (.getfield 18, 3) := by decide +kernel
theorem d_C_markFailed_4 : decode b_C_markFailed 4 = .ok (.iload_n 1, 1) := by decide +kernel
theorem d_C_markFailed_5 : decode b_C_markFailed 5 = .ok (.iconst 1, 1) := by decide +kernel
theorem d_C_markFailed_6 : decode b_C_markFailed 6 = .ok (.bastore, 1) := by decide +kernel
theorem d_C_markFailed_7 : decode b_C_markFailed 7 = .ok (.return_, 1) := by decide +kernel
theorem d_C_mayStep_0 : decode b_C_mayStep 0 = .ok (.aload_n 0, 1) := by decide +kernel
theorem d_C_mayStep_1 : decode b_C_mayStep 1 = .ok (.getfield 26, 3) := by decide +kernel
theorem d_C_mayStep_4 : decode b_C_mayStep 4 = .ok (.ifCond .ne (16), 3) := by decide +kernel
theorem d_C_mayStep_7 : decode b_C_mayStep 7 = .ok (.aload_n 0, 1) := by decide +kernel
theorem d_C_mayStep_8 : decode b_C_mayStep 8 = .ok (.iconst 0, 1) := by decide +kernel
theorem d_C_mayStep_9 : decode b_C_mayStep 9 = .ok (.putfield 22, 3) := by decide +kernel
theorem d_C_mayStep_12 : decode b_C_mayStep 12 = .ok (.aload_n 0, 1) := by decide +kernel
theorem d_C_mayStep_13 : decode b_C_mayStep 13 = .ok (.iconst (-1), 1) := by decide +kernel
theorem d_C_mayStep_14 : decode b_C_mayStep 14 = .ok (.putfield 26, 3) := by decide +kernel
theorem d_C_mayStep_17 : decode b_C_mayStep 17 = .ok (.goto (20), 3) := by decide +kernel
theorem d_C_mayStep_20 : decode b_C_mayStep 20 = .ok (.aload_n 0, 1) := by decide +kernel
theorem d_C_mayStep_21 : decode b_C_mayStep 21 = .ok (.getfield 26, 3) := by decide +kernel
theorem d_C_mayStep_24 : decode b_C_mayStep 24 = .ok (.ifCond .le (13), 3) := by decide +kernel
theorem d_C_mayStep_27 : decode b_C_mayStep 27 = .ok (.aload_n 0, 1) := by decide +kernel
theorem d_C_mayStep_28 : decode b_C_mayStep 28 = .ok (.dup, 1) := by decide +kernel
theorem d_C_mayStep_29 : decode b_C_mayStep 29 = .ok (.getfield 26, 3) := by decide +kernel
theorem d_C_mayStep_32 : decode b_C_mayStep 32 = .ok (.iconst 1, 1) := by decide +kernel
theorem d_C_mayStep_33 : decode b_C_mayStep 33 = .ok (.isub, 1) := by decide +kernel
theorem d_C_mayStep_34 : decode b_C_mayStep 34 = .ok (.putfield 26, 3) := by decide +kernel
theorem d_C_mayStep_37 : decode b_C_mayStep 37 = .ok (.aload_n 0, 1) := by decide +kernel
theorem d_C_mayStep_38 : decode b_C_mayStep 38 = .ok (.getfield 22, 3) := by decide +kernel
theorem d_C_mayStep_41 : decode b_C_mayStep 41 = .ok (.ireturn, 1) := by decide +kernel
theorem d_C_writePage_0 : decode b_C_writePage 0 = .ok (.iconst 0, 1) := by decide +kernel
theorem d_C_writePage_1 : decode b_C_writePage 1 = .ok (.istore_n 3, 1) := by decide +kernel
theorem d_C_writePage_2 : decode b_C_writePage 2 = .ok (.iload_n 3, 1) := by decide +kernel
theorem d_C_writePage_3 : decode b_C_writePage 3 = .ok (.bipush 16, 2) := by decide +kernel
theorem d_C_writePage_5 : decode b_C_writePage 5 = .ok (.if_icmp .ge (32), 3) := by decide +kernel
theorem d_C_writePage_8 : decode b_C_writePage 8 = .ok (.aload_n 0, 1) := by decide +kernel
theorem d_C_writePage_9 : decode b_C_writePage 9 = .ok (.invokevirtual 30, 3) := by decide +kernel
theorem d_C_writePage_12 : decode b_C_writePage 12 = .ok (.ifCond .ne (5), 3) := by decide +kernel
theorem d_C_writePage_15 : decode b_C_writePage 15 = .ok (.iconst 0, 1) := by decide +kernel
theorem d_C_writePage_16 : decode b_C_writePage 16 = .ok (.ireturn, 1) := by decide +kernel
theorem d_C_writePage_17 : decode b_C_writePage 17 = .ok (.aload_n 0, 1) := by decide +kernel
theorem d_C_writePage_18 : decode b_C_writePage 18 = .ok (.getfield 9, 3) := by decide +kernel
theorem d_C_writePage_21 : decode b_C_writePage 21 = .ok (.iload_n 1, 1) := by decide +kernel
theorem d_C_writePage_22 : decode b_C_writePage 22 = .ok (.bipush 16, 2) := by decide +kernel
theorem d_C_writePage_24 : decode b_C_writePage 24 = .ok (.imul, 1) := by decide +kernel
theorem d_C_writePage_25 : decode b_C_writePage 25 = .ok (.iload_n 3, 1) := by decide +kernel
theorem d_C_writePage_26 : decode b_C_writePage 26 = .ok (.iadd, 1) := by decide +kernel
theorem d_C_writePage_27 : decode b_C_writePage 27 = .ok (.aload_n 2, 1) := by decide +kernel
theorem d_C_writePage_28 : decode b_C_writePage 28 = .ok (.iload_n 3, 1) := by decide +kernel
theorem d_C_writePage_29 : decode b_C_writePage 29 = .ok (.iaload, 1) := by decide +kernel
theorem d_C_writePage_30 : decode b_C_writePage 30 = .ok (.iastore, 1) := by decide +kernel
theorem d_C_writePage_31 : decode b_C_writePage 31 = .ok (.iinc 3 1, 3) := by decide +kernel
theorem d_C_writePage_34 : decode b_C_writePage 34 = .ok (.goto (-32), 3) := by decide +kernel
theorem d_C_writePage_37 : decode b_C_writePage 37 = .ok (.iconst 1, 1) := by decide +kernel
theorem d_C_writePage_38 : decode b_C_writePage 38 = .ok (.ireturn, 1) := by decide +kernel
