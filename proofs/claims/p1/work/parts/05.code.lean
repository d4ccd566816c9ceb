abbrev b_C_isPowered : ByteArray := prog_2_method_2_code
def y_C_isPowered : MethodName := ⟨R_C, "isPowered", "()Z"⟩
def w_C_isPowered : List Cond := .code y_C_isPowered b_C_isPowered 1 (some (.boolean)) :: gw
abbrev b_C_read : ByteArray := prog_2_method_6_code
def y_C_read : MethodName := ⟨R_C, "read", "(II)I"⟩
def w_C_read : List Cond := .code y_C_read b_C_read 3 (some (.int)) :: gw
abbrev b_C_wearAt : ByteArray := prog_2_method_8_code
def y_C_wearAt : MethodName := ⟨R_C, "wearAt", "(I)I"⟩
def w_C_wearAt : List Cond := .code y_C_wearAt b_C_wearAt 2 (some (.int)) :: gw
abbrev b_C_isFree : ByteArray := prog_2_method_14_code
def y_C_isFree : MethodName := ⟨R_C, "isFree", "(I)Z"⟩
def w_C_isFree : List Cond := .code y_C_isFree b_C_isFree 4 (some (.boolean)) :: gw
abbrev b_C_isRight : ByteArray := prog_2_method_15_code
def y_C_isRight : MethodName := ⟨R_C, "isRight", "(I)Z"⟩
def w_C_isRight : List Cond := .code y_C_isRight b_C_isRight 3 (some (.boolean)) :: gw
abbrev b_C_freePagesOf : ByteArray := prog_2_method_19_code
def y_C_freePagesOf : MethodName := ⟨R_C, "freePagesOf", "(I)I"⟩
def w_C_freePagesOf : List Cond := .code y_C_freePagesOf b_C_freePagesOf 4 (some (.int)) :: gw
abbrev b_C_usableFreePages : ByteArray := prog_2_method_20_code
def y_C_usableFreePages : MethodName := ⟨R_C, "usableFreePages", "()I"⟩
def w_C_usableFreePages : List Cond := .code y_C_usableFreePages b_C_usableFreePages 3 (some (.int)) :: gw
abbrev b_C_turnOff : ByteArray := prog_2_method_3_code
def y_C_turnOff : MethodName := ⟨R_C, "turnOff", "()V"⟩
def w_C_turnOff : List Cond := .code y_C_turnOff b_C_turnOff 1 none :: gw
abbrev b_C_turnOn : ByteArray := prog_2_method_4_code
def y_C_turnOn : MethodName := ⟨R_C, "turnOn", "()V"⟩
def w_C_turnOn : List Cond := .code y_C_turnOn b_C_turnOn 1 none :: gw
abbrev b_C_tellCut : ByteArray := prog_2_method_5_code
def y_C_tellCut : MethodName := ⟨R_C, "tellCut", "(I)V"⟩
def w_C_tellCut : List Cond := .code y_C_tellCut b_C_tellCut 2 none :: gw
abbrev b_C_flip : ByteArray := prog_2_method_7_code
def y_C_flip : MethodName := ⟨R_C, "flip", "(III)V"⟩
def w_C_flip : List Cond := .code y_C_flip b_C_flip 4 none :: gw
abbrev b_C_markFailed : ByteArray := prog_2_method_9_code
def y_C_markFailed : MethodName := ⟨R_C, "markFailed", "(I)V"⟩
def w_C_markFailed : List Cond := .code y_C_markFailed b_C_markFailed 2 none :: gw
abbrev b_G_recordCount : ByteArray := prog_4_method_3_code
def y_G_recordCount : MethodName := ⟨R_G, "recordCount", "()I"⟩
def w_G_recordCount : List Cond := .code y_G_recordCount b_G_recordCount 1 (some (.int)) :: gw
abbrev b_G_ticketCount : ByteArray := prog_4_method_4_code
def y_G_ticketCount : MethodName := ⟨R_G, "ticketCount", "()I"⟩
def w_G_ticketCount : List Cond := .code y_G_ticketCount b_G_ticketCount 1 (some (.int)) :: gw
abbrev b_G_hasTicket : ByteArray := prog_4_method_11_code
def y_G_hasTicket : MethodName := ⟨R_G, "hasTicket", "(I)Z"⟩
def w_G_hasTicket : List Cond := .code y_G_hasTicket b_G_hasTicket 2 (some (.boolean)) :: gw
abbrev b_G_empty : ByteArray := prog_4_method_2_code
def y_G_empty : MethodName := ⟨R_G, "empty", "()V"⟩
def w_G_empty : List Cond := .code y_G_empty b_G_empty 1 none :: gw
abbrev b_S_durableCount : ByteArray := prog_5_method_4_code
def y_S_durableCount : MethodName := ⟨R_S, "durableCount", "()I"⟩
def w_S_durableCount : List Cond := .code y_S_durableCount b_S_durableCount 1 (some (.int)) :: gw
abbrev b_S_latestSerial : ByteArray := prog_5_method_5_code
def y_S_latestSerial : MethodName := ⟨R_S, "latestSerial", "()I"⟩
def w_S_latestSerial : List Cond := .code y_S_latestSerial b_S_latestSerial 1 (some (.int)) :: gw
abbrev b_S_cursorBlock : ByteArray := prog_5_method_6_code
def y_S_cursorBlock : MethodName := ⟨R_S, "cursorBlock", "()I"⟩
def w_S_cursorBlock : List Cond := .code y_S_cursorBlock b_S_cursorBlock 1 (some (.int)) :: gw
abbrev b_S_isLive : ByteArray := prog_5_method_8_code
def y_S_isLive : MethodName := ⟨R_S, "isLive", "(I)Z"⟩
def w_S_isLive : List Cond := .code y_S_isLive b_S_isLive 3 (some (.boolean)) :: gw
abbrev b_S_livePageCount : ByteArray := prog_5_method_7_code
def y_S_livePageCount : MethodName := ⟨R_S, "livePageCount", "()I"⟩
def w_S_livePageCount : List Cond := .code y_S_livePageCount b_S_livePageCount 3 (some (.int)) :: gw
abbrev b_R_forgetReadings : ByteArray := prog_1_method_22_code
def y_R_forgetReadings : MethodName := ⟨R_R, "forgetReadings", "()V"⟩
def w_R_forgetReadings : List Cond := .code y_R_forgetReadings b_R_forgetReadings 1 none :: gw
theorem t_37 : (.fieldLink R_C 22 R_C "powered" "Z" : Cond) ∈ gw := gw_in (tb_1 (List.mem_of_getElem? (i := 37) rfl)) (by first | rfl | decide +kernel)
theorem t_34 : (.fieldLink R_C 9 R_C "words" "[I" : Cond) ∈ gw := gw_in (tb_1 (List.mem_of_getElem? (i := 34) rfl)) (by first | rfl | decide +kernel)
theorem t_35 : (.fieldLink R_C 15 R_C "wear" "[I" : Cond) ∈ gw := gw_in (tb_1 (List.mem_of_getElem? (i := 35) rfl)) (by first | rfl | decide +kernel)
theorem t_164 : (.methodLink R_C 34 y_C_read : Cond) ∈ gw := gw_in (tb_1 (List.mem_of_getElem? (i := 164) rfl)) (by first | rfl | decide +kernel)
theorem t_167 : (.code y_C_read b_C_read 3 (some (.int)) : Cond) ∈ gw := gw_in (tb_1 (List.mem_of_getElem? (i := 167) rfl)) (by first | rfl | decide +kernel)
theorem t_165 : (.instanceMethod y_C_read : Cond) ∈ gw := gw_in (tb_1 (List.mem_of_getElem? (i := 165) rfl)) (by first | rfl | decide +kernel)
theorem t_166 : (.selects R_C y_C_read y_C_read : Cond) ∈ gw := gw_in (tb_1 (List.mem_of_getElem? (i := 166) rfl)) (by first | rfl | decide +kernel)
theorem t_3 : (.initialized R_C : Cond) ∈ gw := gw_in (tb_1 (List.mem_of_getElem? (i := 3) rfl)) (by first | rfl | decide +kernel)
theorem t_258 : (.methodLink R_C 43 y_C_isFree : Cond) ∈ gw := gw_in (tb_2 (List.mem_of_getElem? (i := 18) rfl)) (by first | rfl | decide +kernel)
theorem t_261 : (.code y_C_isFree b_C_isFree 4 (some (.boolean)) : Cond) ∈ gw := gw_in (tb_2 (List.mem_of_getElem? (i := 21) rfl)) (by first | rfl | decide +kernel)
theorem t_259 : (.instanceMethod y_C_isFree : Cond) ∈ gw := gw_in (tb_2 (List.mem_of_getElem? (i := 19) rfl)) (by first | rfl | decide +kernel)
theorem t_260 : (.selects R_C y_C_isFree y_C_isFree : Cond) ∈ gw := gw_in (tb_2 (List.mem_of_getElem? (i := 20) rfl)) (by first | rfl | decide +kernel)
theorem t_36 : (.fieldLink R_C 18 R_C "failed" "[Z" : Cond) ∈ gw := gw_in (tb_1 (List.mem_of_getElem? (i := 36) rfl)) (by first | rfl | decide +kernel)
theorem t_254 : (.methodLink R_C 47 y_C_freePagesOf : Cond) ∈ gw := gw_in (tb_2 (List.mem_of_getElem? (i := 14) rfl)) (by first | rfl | decide +kernel)
theorem t_257 : (.code y_C_freePagesOf b_C_freePagesOf 4 (some (.int)) : Cond) ∈ gw := gw_in (tb_2 (List.mem_of_getElem? (i := 17) rfl)) (by first | rfl | decide +kernel)
theorem t_255 : (.instanceMethod y_C_freePagesOf : Cond) ∈ gw := gw_in (tb_2 (List.mem_of_getElem? (i := 15) rfl)) (by first | rfl | decide +kernel)
theorem t_256 : (.selects R_C y_C_freePagesOf y_C_freePagesOf : Cond) ∈ gw := gw_in (tb_2 (List.mem_of_getElem? (i := 16) rfl)) (by first | rfl | decide +kernel)
theorem t_38 : (.fieldLink R_C 26 R_C "stepsToCut" "I" : Cond) ∈ gw := gw_in (tb_1 (List.mem_of_getElem? (i := 38) rfl)) (by first | rfl | decide +kernel)
theorem t_87 : (.fieldLink R_G 21 R_G "records" "I" : Cond) ∈ gw := gw_in (tb_1 (List.mem_of_getElem? (i := 87) rfl)) (by first | rfl | decide +kernel)
theorem t_88 : (.fieldLink R_G 25 R_G "tickets" "I" : Cond) ∈ gw := gw_in (tb_1 (List.mem_of_getElem? (i := 88) rfl)) (by first | rfl | decide +kernel)
theorem t_57 : (.fieldLink R_S 32 R_S "durable" "I" : Cond) ∈ gw := gw_in (tb_1 (List.mem_of_getElem? (i := 57) rfl)) (by first | rfl | decide +kernel)
theorem t_56 : (.fieldLink R_S 29 R_S "serial" "I" : Cond) ∈ gw := gw_in (tb_1 (List.mem_of_getElem? (i := 56) rfl)) (by first | rfl | decide +kernel)
theorem t_55 : (.fieldLink R_S 25 R_S "cursor" "I" : Cond) ∈ gw := gw_in (tb_1 (List.mem_of_getElem? (i := 55) rfl)) (by first | rfl | decide +kernel)
theorem t_53 : (.fieldLink R_S 18 R_S "livePages" "[I" : Cond) ∈ gw := gw_in (tb_1 (List.mem_of_getElem? (i := 53) rfl)) (by first | rfl | decide +kernel)
theorem t_238 : (.methodLink R_S 39 y_S_isLive : Cond) ∈ gw := gw_in (tb_1 (List.mem_of_getElem? (i := 238) rfl)) (by first | rfl | decide +kernel)
theorem t_241 : (.code y_S_isLive b_S_isLive 3 (some (.boolean)) : Cond) ∈ gw := gw_in (tb_2 (List.mem_of_getElem? (i := 1) rfl)) (by first | rfl | decide +kernel)
theorem t_240 : (.instanceMethod y_S_isLive : Cond) ∈ gw := gw_in (tb_2 (List.mem_of_getElem? (i := 0) rfl)) (by first | rfl | decide +kernel)
theorem t_2 : (.initialized R_S : Cond) ∈ gw := gw_in (tb_1 (List.mem_of_getElem? (i := 2) rfl)) (by first | rfl | decide +kernel)
theorem t_119 : (.fieldLink R_R 41 R_R "readings" "I" : Cond) ∈ gw := gw_in (tb_1 (List.mem_of_getElem? (i := 119) rfl)) (by first | rfl | decide +kernel)
theorem t_120 : (.fieldLink R_R 45 R_R "readSteps" "I" : Cond) ∈ gw := gw_in (tb_1 (List.mem_of_getElem? (i := 120) rfl)) (by first | rfl | decide +kernel)
theorem s_5 : (.selects R_S y_S_isLive y_S_isLive : Cond) ∈ gw := gw_in (tb_s (q := (⟨"WeighRecorder$Store", "isLive", "(I)Z"⟩, _)) (List.mem_of_getElem? (i := 5) rfl)) (by first | rfl | decide +kernel)
theorem d_C_isPowered_0 : decode b_C_isPowered 0 = .ok (.aload_n 0, 1) := by decide +kernel
theorem d_C_isPowered_1 : decode b_C_isPowered 1 = .ok (.getfield 22, 3) := by decide +kernel
theorem d_C_isPowered_4 : decode b_C_isPowered 4 = .ok (.ireturn, 1) := by decide +kernel
theorem d_C_read_0 : decode b_C_read 0 = .ok (.aload_n 0, 1) := by decide +kernel
theorem d_C_read_1 : decode b_C_read 1 = .ok (.getfield 9, 3) := by decide +kernel
theorem d_C_read_4 : decode b_C_read 4 = .ok (.iload_n 1, 1) := by decide +kernel
theorem d_C_read_5 : decode b_C_read 5 = .ok (.bipush 16, 2) := by decide +kernel
theorem d_C_read_7 : decode b_C_read 7 = .ok (.imul, 1) := by decide +kernel
theorem d_C_read_8 : decode b_C_read 8 = .ok (.iload_n 2, 1) := by decide +kernel
theorem d_C_read_9 : decode b_C_read 9 = .ok (.iadd, 1) := by decide +kernel
theorem d_C_read_10 : decode b_C_read 10 = .ok (.iaload, 1) := by decide +kernel
theorem d_C_read_11 : decode b_C_read 11 = .ok (.ireturn, 1) := by decide +kernel
theorem d_C_wearAt_0 : decode b_C_wearAt 0 = .ok (.aload_n 0, 1) := by decide +kernel
theorem d_C_wearAt_1 : decode b_C_wearAt 1 = .ok (.getfield 15, 3) := by decide +kernel
theorem d_C_wearAt_4 : decode b_C_wearAt 4 = .ok (.iload_n 1, 1) := by decide +kernel
theorem d_C_wearAt_5 : decode b_C_wearAt 5 = .ok (.iaload, 1) := by decide +kernel
theorem d_C_wearAt_6 : decode b_C_wearAt 6 = .ok (.ireturn, 1) := by decide +kernel
theorem d_C_isFree_0 : decode b_C_isFree 0 = .ok (.iload_n 1, 1) := by decide +kernel
theorem d_C_isFree_1 : decode b_C_isFree 1 = .ok (.bipush 16, 2) := by decide +kernel
theorem d_C_isFree_3 : decode b_C_isFree 3 = .ok (.imul, 1) := by decide +kernel
theorem d_C_isFree_4 : decode b_C_isFree 4 = .ok (.istore_n 2, 1) := by decide +kernel
theorem d_C_isFree_5 : decode b_C_isFree 5 = .ok (.iload_n 2, 1) := by decide +kernel
theorem d_C_isFree_6 : decode b_C_isFree 6 = .ok (.istore_n 3, 1) := by decide +kernel
theorem d_C_isFree_7 : decode b_C_isFree 7 = .ok (.iload_n 3, 1) := by decide +kernel
theorem d_C_isFree_8 : decode b_C_isFree 8 = .ok (.iload_n 2, 1) := by decide +kernel
theorem d_C_isFree_9 : decode b_C_isFree 9 = .ok (.bipush 16, 2) := by decide +kernel
theorem d_C_isFree_11 : decode b_C_isFree 11 = .ok (.iadd, 1) := by decide +kernel
theorem d_C_isFree_12 : decode b_C_isFree 12 = .ok (.if_icmp .ge (21), 3) := by decide +kernel
theorem d_C_isFree_15 : decode b_C_isFree 15 = .ok (.aload_n 0, 1) := by decide +kernel
theorem d_C_isFree_16 : decode b_C_isFree 16 = .ok (.getfield 9, 3) := by decide +kernel
theorem d_C_isFree_19 : decode b_C_isFree 19 = .ok (.iload_n 3, 1) := by decide +kernel
theorem d_C_isFree_20 : decode b_C_isFree 20 = .ok (.iaload, 1) := by decide +kernel
theorem d_C_isFree_21 : decode b_C_isFree 21 = .ok (.iconst (-1), 1) := by decide +kernel
theorem d_C_isFree_22 : decode b_C_isFree 22 = .ok (.if_icmp .eq (5), 3) := by decide +kernel
theorem d_C_isFree_25 : decode b_C_isFree 25 = .ok (.iconst 0, 1) := by decide +kernel
theorem d_C_isFree_26 : decode b_C_isFree 26 = .ok (.ireturn, 1) := by decide +kernel
theorem d_C_isFree_27 : decode b_C_isFree 27 = .ok (.iinc 3 1, 3) := by decide +kernel
theorem d_C_isFree_30 : decode b_C_isFree 30 = .ok (.goto (-23), 3) := by decide +kernel
theorem d_C_isFree_33 : decode b_C_isFree 33 = .ok (.iconst 1, 1) := by decide +kernel
theorem d_C_isFree_34 : decode b_C_isFree 34 = .ok (.ireturn, 1) := by decide +kernel
theorem d_C_isRight_0 : decode b_C_isRight 0 = .ok (.aload_n 0, 1) := by decide +kernel
theorem d_C_isRight_1 : decode b_C_isRight 1 = .ok (.iload_n 1, 1) := by decide +kernel
theorem d_C_isRight_2 : decode b_C_isRight 2 = .ok (.iconst 0, 1) := by decide +kernel
theorem d_C_isRight_3 : decode b_C_isRight 3 = .ok (.invokevirtual 34, 3) := by decide +kernel
theorem d_C_isRight_6 : decode b_C_isRight 6 = .ok (.istore_n 2, 1) := by decide +kernel
theorem d_C_isRight_7 : decode b_C_isRight 7 = .ok (.iload_n 2, 1) := by decide +kernel
theorem d_C_isRight_8 : decode b_C_isRight 8 = .ok (.ifCond .le (54), 3) := by decide +kernel
theorem d_C_isRight_11 : decode b_C_isRight 11 = .ok (.iload_n 2, 1) := by decide +kernel
theorem d_C_isRight_12 : decode b_C_isRight 12 = .ok (.bipush 64, 2) := by decide +kernel
theorem d_C_isRight_14 : decode b_C_isRight 14 = .ok (.if_icmp .ge (48), 3) := by decide +kernel
theorem d_C_isRight_17 : decode b_C_isRight 17 = .ok (.iload_n 2, 1) := by decide +kernel
theorem d_C_isRight_18 : decode b_C_isRight 18 = .ok (.iconst 4, 1) := by decide +kernel
theorem d_C_isRight_19 : decode b_C_isRight 19 = .ok (.irem, 1) := by decide +kernel
theorem d_C_isRight_20 : decode b_C_isRight 20 = .ok (.ifCond .eq (42), 3) := by decide +kernel
theorem d_C_isRight_23 : decode b_C_isRight 23 = .ok (.aload_n 0, 1) := by decide +kernel
theorem d_C_isRight_24 : decode b_C_isRight 24 = .ok (.iload_n 1, 1) := by decide +kernel
theorem d_C_isRight_25 : decode b_C_isRight 25 = .ok (.bipush 15, 2) := by decide +kernel
theorem d_C_isRight_27 : decode b_C_isRight 27 = .ok (.invokevirtual 34, 3) := by decide +kernel
theorem d_C_isRight_30 : decode b_C_isRight 30 = .ok (.ldc 38, 2) := by decide +kernel
theorem d_C_isRight_32 : decode b_C_isRight 32 = .ok (.if_icmp .ne (30), 3) := by decide +kernel
theorem d_C_isRight_35 : decode b_C_isRight 35 = .ok (.aload_n 0, 1) := by decide +kernel
theorem d_C_isRight_36 : decode b_C_isRight 36 = .ok (.iload_n 1, 1) := by decide +kernel
theorem d_C_isRight_37 : decode b_C_isRight 37 = .ok (.bipush 14, 2) := by decide +kernel
theorem d_C_isRight_39 : decode b_C_isRight 39 = .ok (.invokevirtual 34, 3) := by decide +kernel
theorem d_C_isRight_42 : decode b_C_isRight 42 = .ok (.aload_n 0, 1) := by decide +kernel
theorem d_C_isRight_43 : decode b_C_isRight 43 = .ok (.getfield 9, 3) := by decide +kernel
theorem d_C_isRight_46 : decode b_C_isRight 46 = .ok (.iload_n 1, 1) := by decide +kernel
theorem d_C_isRight_47 : decode b_C_isRight 47 = .ok (.bipush 16, 2) := by decide +kernel
theorem d_C_isRight_49 : decode b_C_isRight 49 = .ok (.imul, 1) := by decide +kernel
theorem d_C_isRight_50 : decode b_C_isRight 50 = .ok (.bipush 14, 2) := by decide +kernel
theorem d_C_isRight_52 : decode b_C_isRight 52 = .ok (.invokestatic 39, 3) := by decide +kernel
theorem d_C_isRight_55 : decode b_C_isRight 55 = .ok (.if_icmp .ne (7), 3) := by decide +kernel
theorem d_C_isRight_58 : decode b_C_isRight 58 = .ok (.iconst 1, 1) := by decide +kernel
theorem d_C_isRight_59 : decode b_C_isRight 59 = .ok (.goto (4), 3) := by decide +kernel
theorem d_C_isRight_62 : decode b_C_isRight 62 = .ok (.iconst 0, 1) := by decide +kernel
theorem d_C_isRight_63 : decode b_C_isRight 63 = .ok (.ireturn, 1) := by decide +kernel
theorem d_C_freePagesOf_0 : decode b_C_freePagesOf 0 = .ok (.iconst 0, 1) := by decide +kernel
theorem d_C_freePagesOf_1 : decode b_C_freePagesOf 1 = .ok (.istore_n 2, 1) := by decide +kernel
theorem d_C_freePagesOf_2 : decode b_C_freePagesOf 2 = .ok (.iload_n 1, 1) := by decide +kernel
theorem d_C_freePagesOf_3 : decode b_C_freePagesOf 3 = .ok (.iconst 4, 1) := by decide +kernel
theorem d_C_freePagesOf_4 : decode b_C_freePagesOf 4 = .ok (.imul, 1) := by decide +kernel
theorem d_C_freePagesOf_5 : decode b_C_freePagesOf 5 = .ok (.istore_n 3, 1) := by decide +kernel
theorem d_C_freePagesOf_6 : decode b_C_freePagesOf 6 = .ok (.iload_n 3, 1) := by decide +kernel
theorem d_C_freePagesOf_7 : decode b_C_freePagesOf 7 = .ok (.iload_n 1, 1) := by decide +kernel
theorem d_C_freePagesOf_8 : decode b_C_freePagesOf 8 = .ok (.iconst 1, 1) := by decide +kernel
theorem d_C_freePagesOf_9 : decode b_C_freePagesOf 9 = .ok (.iadd, 1) := by decide +kernel
theorem d_C_freePagesOf_10 : decode b_C_freePagesOf 10 = .ok (.iconst 4, 1) := by decide +kernel
theorem d_C_freePagesOf_11 : decode b_C_freePagesOf 11 = .ok (.imul, 1) := by decide +kernel
theorem d_C_freePagesOf_12 : decode b_C_freePagesOf 12 = .ok (.if_icmp .ge (20), 3) := by decide +kernel
theorem d_C_freePagesOf_15 : decode b_C_freePagesOf 15 = .ok (.aload_n 0, 1) := by decide +kernel
theorem d_C_freePagesOf_16 : decode b_C_freePagesOf 16 = .ok (.iload_n 3, 1) := by decide +kernel
theorem d_C_freePagesOf_17 : decode b_C_freePagesOf 17 = .ok (.invokevirtual 43, 3) := by decide +kernel
theorem d_C_freePagesOf_20 : decode b_C_freePagesOf 20 = .ok (.ifCond .eq (6), 3) := by decide +kernel
theorem d_C_freePagesOf_23 : decode b_C_freePagesOf 23 = .ok (.iinc 2 1, 3) := by decide +kernel
theorem d_C_freePagesOf_26 : decode b_C_freePagesOf 26 = .ok (.iinc 3 1, 3) := by decide +kernel
theorem d_C_freePagesOf_29 : decode b_C_freePagesOf 29 = .ok (.goto (-23), 3) := by decide +kernel
theorem d_C_freePagesOf_32 : decode b_C_freePagesOf 32 = .ok (.iload_n 2, 1) := by decide +kernel
theorem d_C_freePagesOf_33 : decode b_C_freePagesOf 33 = .ok (.ireturn, 1) := by decide +kernel
theorem d_C_usableFreePages_0 : decode b_C_usableFreePages 0 = .ok (.iconst 0, 1) := by decide +kernel
theorem d_C_usableFreePages_1 : decode b_C_usableFreePages 1 = .ok (.istore_n 1, 1) := by decide +kernel
theorem d_C_usableFreePages_2 : decode b_C_usableFreePages 2 = .ok (.iconst 0, 1) := by decide +kernel
theorem d_C_usableFreePages_3 : decode b_C_usableFreePages 3 = .ok (.istore_n 2, 1) := by decide +kernel
theorem d_C_usableFreePages_4 : decode b_C_usableFreePages 4 = .ok (.iload_n 2, 1) := by decide +kernel
theorem d_C_usableFreePages_5 : decode b_C_usableFreePages 5 = .ok (.bipush 8, 2) := by decide +kernel
theorem d_C_usableFreePages_7 : decode b_C_usableFreePages 7 = .ok (.if_icmp .ge (26), 3) := by decide +kernel
theorem d_C_usableFreePages_10 : decode b_C_usableFreePages 10 = .ok (.aload_n 0, 1) := by decide +kernel
theorem d_C_usableFreePages_11 : decode b_C_usableFreePages 11 = .ok (.getfield 18, 3) := by decide +kernel
theorem d_C_usableFreePages_14 : decode b_C_usableFreePages 14 = .ok (.iload_n 2, 1) := by decide +kernel
theorem d_C_usableFreePages_15 : decode b_C_usableFreePages 15 = .ok (.baload, 1) := by decide +kernel
theorem d_C_usableFreePages_16 : decode b_C_usableFreePages 16 = .ok (.ifCond .ne (11), 3) := by decide +kernel
theorem d_C_usableFreePages_19 : decode b_C_usableFreePages 19 = .ok (.iload_n 1, 1) := by decide +kernel
theorem d_C_usableFreePages_20 : decode b_C_usableFreePages 20 = .ok (.aload_n 0, 1) := by decide +kernel
theorem d_C_usableFreePages_21 : decode b_C_usableFreePages 21 = .ok (.iload_n 2, 1) := by decide +kernel
theorem d_C_usableFreePages_22 : decode b_C_usableFreePages 22 = .ok (.invokevirtual 47, 3) := by decide +kernel
theorem d_C_usableFreePages_25 : decode b_C_usableFreePages 25 = .ok (.iadd, 1) := by decide +kernel
theorem d_C_usableFreePages_26 : decode b_C_usableFreePages 26 = .ok (.istore_n 1, 1) := by decide +kernel
theorem d_C_usableFreePages_27 : decode b_C_usableFreePages 27 = .ok (.iinc 2 1, 3) := by decide +kernel
theorem d_C_usableFreePages_30 : decode b_C_usableFreePages 30 = .ok (.goto (-26), 3) := by decide +kernel
theorem d_C_usableFreePages_33 : decode b_C_usableFreePages 33 = .ok (.iload_n 1, 1) := by decide +kernel
theorem d_C_usableFreePages_34 : decode b_C_usableFreePages 34 = .ok (.ireturn, 1) := by decide +kernel
theorem d_C_turnOff_0 : decode b_C_turnOff 0 = .ok (.aload_n 0, 1) := by decide +kernel
theorem d_C_turnOff_1 : decode b_C_turnOff 1 = .ok (.iconst 0, 1) := by decide +kernel
theorem d_C_turnOff_2 : decode b_C_turnOff 2 = .ok (.putfield 22, 3) := by decide +kernel
theorem d_C_turnOff_5 : decode b_C_turnOff 5 = .ok (.aload_n 0, 1) := by decide +kernel
theorem d_C_turnOff_6 : decode b_C_turnOff 6 = .ok (.iconst (-1), 1) := by decide +kernel
theorem d_C_turnOff_7 : decode b_C_turnOff 7 = .ok (.putfield 26, 3) := by decide +kernel
theorem d_C_turnOff_10 : decode b_C_turnOff 10 = .ok (.return_, 1) := by decide +kernel
theorem d_C_turnOn_0 : decode b_C_turnOn 0 = .ok (.aload_n 0, 1) := by decide +kernel
theorem d_C_turnOn_1 : decode b_C_turnOn 1 = .ok (.iconst 1, 1) := by decide +kernel
theorem d_C_turnOn_2 : decode b_C_turnOn 2 = .ok (.putfield 22, 3) := by decide +kernel
theorem d_C_turnOn_5 : decode b_C_turnOn 5 = .ok (.return_, 1) := by decide +kernel
theorem d_C_tellCut_0 : decode b_C_tellCut 0 = .ok (.aload_n 0, 1) := by decide +kernel
theorem d_C_tellCut_1 : decode b_C_tellCut 1 = .ok (.iload_n 1, 1) := by decide +kernel
theorem d_C_tellCut_2 : decode b_C_tellCut 2 = .ok (.putfield 26, 3) := by decide +kernel
theorem d_C_tellCut_5 : decode b_C_tellCut 5 = .ok (.return_, 1) := by decide +kernel
theorem d_C_flip_0 : decode b_C_flip 0 = .ok (.aload_n 0, 1) := by decide +kernel
theorem d_C_flip_1 : decode b_C_flip 1 = .ok (.getfield 9, 3) := by decide +kernel
theorem d_C_flip_4 : decode b_C_flip 4 = .ok (.iload_n 1, 1) := by decide +kernel
theorem d_C_flip_5 : decode b_C_flip 5 = .ok (.bipush 16, 2) := by decide +kernel
theorem d_C_flip_7 : decode b_C_flip 7 = .ok (.imul, 1) := by decide +kernel
theorem d_C_flip_8 : decode b_C_flip 8 = .ok (.iload_n 2, 1) := by decide +kernel
theorem d_C_flip_9 : decode b_C_flip 9 = .ok (.iadd, 1) := by decide +kernel
theorem d_C_flip_10 : decode b_C_flip 10 = .ok (.dup2, 1) := by decide +kernel
theorem d_C_flip_11 : decode b_C_flip 11 = .ok (.iaload, 1) := by decide +kernel
theorem d_C_flip_12 : decode b_C_flip 12 = .ok (.iload_n 3, 1) := by decide +kernel
theorem d_C_flip_13 : decode b_C_flip 13 = .ok (.ixor, 1) := by decide +kernel
theorem d_C_flip_14 : decode b_C_flip 14 = .ok (.iastore, 1) := by decide +kernel
theorem d_C_flip_15 : decode b_C_flip 15 = .ok (.return_, 1) := by decide +kernel
theorem d_C_markFailed_0 : decode b_C_markFailed 0 = .ok (.aload_n 0, 1) := by decide +kernel
theorem d_C_markFailed_1 : decode b_C_markFailed 1 = .ok (.getfield 18, 3) := by decide +kernel
theorem d_C_markFailed_4 : decode b_C_markFailed 4 = .ok (.iload_n 1, 1) := by decide +kernel
theorem d_C_markFailed_5 : decode b_C_markFailed 5 = .ok (.iconst 1, 1) := by decide +kernel
theorem d_C_markFailed_6 : decode b_C_markFailed 6 = .ok (.bastore, 1) := by decide +kernel
theorem d_C_markFailed_7 : decode b_C_markFailed 7 = .ok (.return_, 1) := by decide +kernel
theorem d_G_recordCount_0 : decode b_G_recordCount 0 = .ok (.aload_n 0, 1) := by decide +kernel
theorem d_G_recordCount_1 : decode b_G_recordCount 1 = .ok (.getfield 21, 3) := by decide +kernel
theorem d_G_recordCount_4 : decode b_G_recordCount 4 = .ok (.ireturn, 1) := by decide +kernel
theorem d_G_ticketCount_0 : decode b_G_ticketCount 0 = .ok (.aload_n 0, 1) := by decide +kernel
theorem d_G_ticketCount_1 : decode b_G_ticketCount 1 = .ok (.getfield 25, 3) := by decide +kernel
theorem d_G_ticketCount_4 : decode b_G_ticketCount 4 = .ok (.ireturn, 1) := by decide +kernel
theorem d_G_hasTicket_0 : decode b_G_hasTicket 0 = .ok (.iload_n 1, 1) := by decide +kernel
theorem d_G_hasTicket_1 : decode b_G_hasTicket 1 = .ok (.iconst 1, 1) := by decide +kernel
theorem d_G_hasTicket_2 : decode b_G_hasTicket 2 = .ok (.if_icmp .lt (15), 3) := by decide +kernel
theorem d_G_hasTicket_5 : decode b_G_hasTicket 5 = .ok (.iload_n 1, 1) := by decide +kernel
theorem d_G_hasTicket_6 : decode b_G_hasTicket 6 = .ok (.aload_n 0, 1) := by decide +kernel
theorem d_G_hasTicket_7 : decode b_G_hasTicket 7 = .ok (.getfield 25, 3) := by decide +kernel
theorem d_G_hasTicket_10 : decode b_G_hasTicket 10 = .ok (.if_icmp .gt (7), 3) := by decide +kernel
theorem d_G_hasTicket_13 : decode b_G_hasTicket 13 = .ok (.iconst 1, 1) := by decide +kernel
theorem d_G_hasTicket_14 : decode b_G_hasTicket 14 = .ok (.goto (4), 3) := by decide +kernel
theorem d_G_hasTicket_17 : decode b_G_hasTicket 17 = .ok (.iconst 0, 1) := by decide +kernel
theorem d_G_hasTicket_18 : decode b_G_hasTicket 18 = .ok (.ireturn, 1) := by decide +kernel
theorem d_G_empty_0 : decode b_G_empty 0 = .ok (.aload_n 0, 1) := by decide +kernel
theorem d_G_empty_1 : decode b_G_empty 1 = .ok (.iconst 0, 1) := by decide +kernel
theorem d_G_empty_2 : decode b_G_empty 2 = .ok (.putfield 21, 3) := by decide +kernel
theorem d_G_empty_5 : decode b_G_empty 5 = .ok (.aload_n 0, 1) := by decide +kernel
theorem d_G_empty_6 : decode b_G_empty 6 = .ok (.iconst 0, 1) := by decide +kernel
theorem d_G_empty_7 : decode b_G_empty 7 = .ok (.putfield 25, 3) := by decide +kernel
theorem d_G_empty_10 : decode b_G_empty 10 = .ok (.return_, 1) := by decide +kernel
theorem d_S_durableCount_0 : decode b_S_durableCount 0 = .ok (.aload_n 0, 1) := by decide +kernel
theorem d_S_durableCount_1 : decode b_S_durableCount 1 = .ok (.getfield 32, 3) := by decide +kernel
theorem d_S_durableCount_4 : decode b_S_durableCount 4 = .ok (.ireturn, 1) := by decide +kernel
theorem d_S_latestSerial_0 : decode b_S_latestSerial 0 = .ok (.aload_n 0, 1) := by decide +kernel
theorem d_S_latestSerial_1 : decode b_S_latestSerial 1 = .ok (.getfield 29, 3) := by decide +kernel
theorem d_S_latestSerial_4 : decode b_S_latestSerial 4 = .ok (.ireturn, 1) := by decide +kernel
theorem d_S_cursorBlock_0 : decode b_S_cursorBlock 0 = .ok (.aload_n 0, 1) := by decide +kernel
theorem d_S_cursorBlock_1 : decode b_S_cursorBlock 1 = .ok (.getfield 25, 3) := by decide +kernel
theorem d_S_cursorBlock_4 : decode b_S_cursorBlock 4 = .ok (.ireturn, 1) := by decide +kernel
theorem d_S_isLive_0 : decode b_S_isLive 0 = .ok (.iconst 0, 1) := by decide +kernel
theorem d_S_isLive_1 : decode b_S_isLive 1 = .ok (.istore_n 2, 1) := by decide +kernel
theorem d_S_isLive_2 : decode b_S_isLive 2 = .ok (.iload_n 2, 1) := by decide +kernel
theorem d_S_isLive_3 : decode b_S_isLive 3 = .ok (.bipush 16, 2) := by decide +kernel
theorem d_S_isLive_5 : decode b_S_isLive 5 = .ok (.if_icmp .ge (21), 3) := by decide +kernel
theorem d_S_isLive_8 : decode b_S_isLive 8 = .ok (.aload_n 0, 1) := by decide +kernel
theorem d_S_isLive_9 : decode b_S_isLive 9 = .ok (.getfield 18, 3) := by decide +kernel
theorem d_S_isLive_12 : decode b_S_isLive 12 = .ok (.iload_n 2, 1) := by decide +kernel
theorem d_S_isLive_13 : decode b_S_isLive 13 = .ok (.iaload, 1) := by decide +kernel
theorem d_S_isLive_14 : decode b_S_isLive 14 = .ok (.iload_n 1, 1) := by decide +kernel
theorem d_S_isLive_15 : decode b_S_isLive 15 = .ok (.if_icmp .ne (5), 3) := by decide +kernel
theorem d_S_isLive_18 : decode b_S_isLive 18 = .ok (.iconst 1, 1) := by decide +kernel
theorem d_S_isLive_19 : decode b_S_isLive 19 = .ok (.ireturn, 1) := by decide +kernel
theorem d_S_isLive_20 : decode b_S_isLive 20 = .ok (.iinc 2 1, 3) := by decide +kernel
theorem d_S_isLive_23 : decode b_S_isLive 23 = .ok (.goto (-21), 3) := by decide +kernel
theorem d_S_isLive_26 : decode b_S_isLive 26 = .ok (.iconst 0, 1) := by decide +kernel
theorem d_S_isLive_27 : decode b_S_isLive 27 = .ok (.ireturn, 1) := by decide +kernel
theorem d_S_livePageCount_0 : decode b_S_livePageCount 0 = .ok (.iconst 0, 1) := by decide +kernel
theorem d_S_livePageCount_1 : decode b_S_livePageCount 1 = .ok (.istore_n 1, 1) := by decide +kernel
theorem d_S_livePageCount_2 : decode b_S_livePageCount 2 = .ok (.iconst 0, 1) := by decide +kernel
theorem d_S_livePageCount_3 : decode b_S_livePageCount 3 = .ok (.istore_n 2, 1) := by decide +kernel
theorem d_S_livePageCount_4 : decode b_S_livePageCount 4 = .ok (.iload_n 2, 1) := by decide +kernel
theorem d_S_livePageCount_5 : decode b_S_livePageCount 5 = .ok (.bipush 32, 2) := by decide +kernel
theorem d_S_livePageCount_7 : decode b_S_livePageCount 7 = .ok (.if_icmp .ge (20), 3) := by decide +kernel
theorem d_S_livePageCount_10 : decode b_S_livePageCount 10 = .ok (.aload_n 0, 1) := by decide +kernel
theorem d_S_livePageCount_11 : decode b_S_livePageCount 11 = .ok (.iload_n 2, 1) := by decide +kernel
theorem d_S_livePageCount_12 : decode b_S_livePageCount 12 = .ok (.invokevirtual 39, 3) := by decide +kernel
theorem d_S_livePageCount_15 : decode b_S_livePageCount 15 = .ok (.ifCond .eq (6), 3) := by decide +kernel
theorem d_S_livePageCount_18 : decode b_S_livePageCount 18 = .ok (.iinc 1 1, 3) := by decide +kernel
theorem d_S_livePageCount_21 : decode b_S_livePageCount 21 = .ok (.iinc 2 1, 3) := by decide +kernel
theorem d_S_livePageCount_24 : decode b_S_livePageCount 24 = .ok (.goto (-20), 3) := by decide +kernel
theorem d_S_livePageCount_27 : decode b_S_livePageCount 27 = .ok (.iload_n 1, 1) := by decide +kernel
theorem d_S_livePageCount_28 : decode b_S_livePageCount 28 = .ok (.ireturn, 1) := by decide +kernel
theorem d_R_forgetReadings_0 : decode b_R_forgetReadings 0 = .ok (.aload_n 0, 1) := by decide +kernel
theorem d_R_forgetReadings_1 : decode b_R_forgetReadings 1 = .ok (.iconst 0, 1) := by decide +kernel
theorem d_R_forgetReadings_2 : decode b_R_forgetReadings 2 = .ok (.putfield 41, 3) := by decide +kernel
theorem d_R_forgetReadings_5 : decode b_R_forgetReadings 5 = .ok (.aload_n 0, 1) := by decide +kernel
theorem d_R_forgetReadings_6 : decode b_R_forgetReadings 6 = .ok (.iconst 0, 1) := by decide +kernel
theorem d_R_forgetReadings_7 : decode b_R_forgetReadings 7 = .ok (.putfield 45, 3) := by decide +kernel
theorem d_R_forgetReadings_10 : decode b_R_forgetReadings 10 = .ok (.return_, 1) := by decide +kernel
