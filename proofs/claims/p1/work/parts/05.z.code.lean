abbrev b_C_isPowered : ByteArray := prog_2_method_2_code
def y_C_isPowered : MethodName := ⟨R_C, "isPowered", "()Z"⟩
def w_C_isPowered : List Cond := .code y_C_isPowered b_C_isPowered 1 (some (.boolean)) :: gw
abbrev b_C_read : ByteArray := prog_2_method_6_code
def y_C_read : MethodName := ⟨R_C, "read", "(II)I"⟩
def w_C_read : List Cond := .code y_C_read b_C_read 3 (some (.int)) :: gw
abbrev b_C_wearAt : ByteArray := prog_2_method_8_code
def y_C_wearAt : MethodName := ⟨R_C, "wearAt", "(I)I"⟩
def w_C_wearAt : List Cond := .code y_C_wearAt b_C_wearAt 2 (some (.int)) :: gw
abbrev b_C_isFree : ByteArray := prog_2_method_14_code
def y_C_isFree : MethodName := ⟨R_C, "isFree", "(I)Z"⟩
def w_C_isFree : List Cond := .code y_C_isFree b_C_isFree 4 (some (.boolean)) :: gw
abbrev b_C_isRight : ByteArray := prog_2_method_15_code
def y_C_isRight : MethodName := ⟨R_C, "isRight", "(I)Z"⟩
def w_C_isRight : List Cond := .code y_C_isRight b_C_isRight 3 (some (.boolean)) :: gw
abbrev b_C_freePagesOf : ByteArray := prog_2_method_19_code
def y_C_freePagesOf : MethodName := ⟨R_C, "freePagesOf", "(I)I"⟩
def w_C_freePagesOf : List Cond := .code y_C_freePagesOf b_C_freePagesOf 4 (some (.int)) :: gw
abbrev b_C_usableFreePages : ByteArray := prog_2_method_20_code
def y_C_usableFreePages : MethodName := ⟨R_C, "usableFreePages", "()I"⟩
def w_C_usableFreePages : List Cond := .code y_C_usableFreePages b_C_usableFreePages 3 (some (.int)) :: gw
abbrev b_C_turnOff : ByteArray := prog_2_method_3_code
def y_C_turnOff : MethodName := ⟨R_C, "turnOff", "()V"⟩
def w_C_turnOff : List Cond := .code y_C_turnOff b_C_turnOff 1 none :: gw
abbrev b_C_turnOn : ByteArray := prog_2_method_4_code
def y_C_turnOn : MethodName := ⟨R_C, "turnOn", "()V"⟩
def w_C_turnOn : List Cond := .code y_C_turnOn b_C_turnOn 1 none :: gw
abbrev b_C_tellCut : ByteArray := prog_2_method_5_code
def y_C_tellCut : MethodName := ⟨R_C, "tellCut", "(I)V"⟩
def w_C_tellCut : List Cond := .code y_C_tellCut b_C_tellCut 2 none :: gw
abbrev b_C_flip : ByteArray := prog_2_method_7_code
def y_C_flip : MethodName := ⟨R_C, "flip", "(III)V"⟩
def w_C_flip : List Cond := .code y_C_flip b_C_flip 4 none :: gw
abbrev b_C_markFailed : ByteArray := prog_2_method_9_code
def y_C_markFailed : MethodName := ⟨R_C, "markFailed", "(I)V"⟩
def w_C_markFailed : List Cond := .code y_C_markFailed b_C_markFailed 2 none :: gw
abbrev b_G_recordCount : ByteArray := prog_4_method_3_code
def y_G_recordCount : MethodName := ⟨R_G, "recordCount", "()I"⟩
def w_G_recordCount : List Cond := .code y_G_recordCount b_G_recordCount 1 (some (.int)) :: gw
abbrev b_G_ticketCount : ByteArray := prog_4_method_4_code
def y_G_ticketCount : MethodName := ⟨R_G, "ticketCount", "()I"⟩
def w_G_ticketCount : List Cond := .code y_G_ticketCount b_G_ticketCount 1 (some (.int)) :: gw
abbrev b_G_hasTicket : ByteArray := prog_4_method_11_code
def y_G_hasTicket : MethodName := ⟨R_G, "hasTicket", "(I)Z"⟩
def w_G_hasTicket : List Cond := .code y_G_hasTicket b_G_hasTicket 2 (some (.boolean)) :: gw
abbrev b_G_empty : ByteArray := prog_4_method_2_code
def y_G_empty : MethodName := ⟨R_G, "empty", "()V"⟩
def w_G_empty : List Cond := .code y_G_empty b_G_empty 1 none :: gw
abbrev b_S_durableCount : ByteArray := prog_5_method_4_code
def y_S_durableCount : MethodName := ⟨R_S, "durableCount", "()I"⟩
def w_S_durableCount : List Cond := .code y_S_durableCount b_S_durableCount 1 (some (.int)) :: gw
abbrev b_S_latestSerial : ByteArray := prog_5_method_5_code
def y_S_latestSerial : MethodName := ⟨R_S, "latestSerial", "()I"⟩
def w_S_latestSerial : List Cond := .code y_S_latestSerial b_S_latestSerial 1 (some (.int)) :: gw
abbrev b_S_cursorBlock : ByteArray := prog_5_method_6_code
def y_S_cursorBlock : MethodName := ⟨R_S, "cursorBlock", "()I"⟩
def w_S_cursorBlock : List Cond := .code y_S_cursorBlock b_S_cursorBlock 1 (some (.int)) :: gw
abbrev b_S_isLive : ByteArray := prog_5_method_8_code
def y_S_isLive : MethodName := ⟨R_S, "isLive", "(I)Z"⟩
def w_S_isLive : List Cond := .code y_S_isLive b_S_isLive 3 (some (.boolean)) :: gw
abbrev b_S_livePageCount : ByteArray := prog_5_method_7_code
def y_S_livePageCount : MethodName := ⟨R_S, "livePageCount", "()I"⟩
def w_S_livePageCount : List Cond := .code y_S_livePageCount b_S_livePageCount 3 (some (.int)) :: gw
abbrev b_S_findNewestPages : ByteArray := prog_5_method_20_code
def y_S_findNewestPages : MethodName := ⟨R_S, "findNewestPages", "()I"⟩
def w_S_findNewestPages : List Cond := .code y_S_findNewestPages b_S_findNewestPages 4 (some (.int)) :: gw
abbrev b_S_restore : ByteArray := prog_5_method_19_code
def y_S_restore : MethodName := ⟨R_S, "restore", "(LWeighRecorder$Log;)V"⟩
def w_S_restore : List Cond := .code y_S_restore b_S_restore 5 none :: gw
abbrev b_R_forgetReadings : ByteArray := prog_1_method_22_code
def y_R_forgetReadings : MethodName := ⟨R_R, "forgetReadings", "()V"⟩
def w_R_forgetReadings : List Cond := .code y_R_forgetReadings b_R_forgetReadings 1 none :: gw
abbrev b_R_crash : ByteArray := prog_1_method_14_code
def y_R_crash : MethodName := ⟨R_R, "crash", "()V"⟩
def w_R_crash : List Cond := .code y_R_crash b_R_crash 1 none :: gw
abbrev b_R_mount : ByteArray := prog_1_method_15_code
def y_R_mount : MethodName := ⟨R_R, "mount", "()I"⟩
def w_R_mount : List Cond := .code y_R_mount b_R_mount 1 (some (.int)) :: gw
abbrev b_M_thrown : ByteArray := prog_7_method_2_code
def y_M_thrown : MethodName := ⟨R_M, "thrown", "()I"⟩
def w_M_thrown : List Cond := .code y_M_thrown b_M_thrown 1 (some (.int)) :: gw
abbrev b_M_isIn : ByteArray := prog_7_method_4_code
def y_M_isIn : MethodName := ⟨R_M, "isIn", "(III)Z"⟩
def w_M_isIn : List Cond := .code y_M_isIn b_M_isIn 3 (some (.boolean)) :: gw
abbrev b_R_isWithin : ByteArray := prog_1_method_23_code
def y_R_isWithin : MethodName := ⟨R_R, "isWithin", "(III)Z"⟩
def w_R_isWithin : List Cond := .code y_R_isWithin b_R_isWithin 3 (some (.boolean)) :: gw
abbrev b_M_fails : ByteArray := prog_7_method_3_code
def y_M_fails : MethodName := ⟨R_M, "fails", "(IZ)Z"⟩
def w_M_fails : List Cond := .code y_M_fails b_M_fails 3 (some (.boolean)) :: gw
abbrev b_M_forget : ByteArray := prog_7_method_5_code
def y_M_forget : MethodName := ⟨R_M, "forget", "()V"⟩
def w_M_forget : List Cond := .code y_M_forget b_M_forget 2 none :: gw
abbrev b_M_off : ByteArray := prog_7_method_6_code
def y_M_off : MethodName := ⟨R_M, "off", "()V"⟩
def w_M_off : List Cond := .code y_M_off b_M_off 1 none :: gw
abbrev b_M_isFree : ByteArray := prog_7_method_10_code
def y_M_isFree : MethodName := ⟨R_M, "isFree", "(I)Z"⟩
def w_M_isFree : List Cond := .code y_M_isFree b_M_isFree 4 (some (.boolean)) :: gw
abbrev b_M_isRight : ByteArray := prog_7_method_11_code
def y_M_isRight : MethodName := ⟨R_M, "isRight", "(I)Z"⟩
def w_M_isRight : List Cond := .code y_M_isRight b_M_isRight 3 (some (.boolean)) :: gw
abbrev b_M_placeOf : ByteArray := prog_7_method_25_code
def y_M_placeOf : MethodName := ⟨R_M, "placeOf", "(I)I"⟩
def w_M_placeOf : List Cond := .code y_M_placeOf b_M_placeOf 4 (some (.int)) :: gw
abbrev b_M_tickets : ByteArray := prog_7_method_26_code
def y_M_tickets : MethodName := ⟨R_M, "tickets", "()I"⟩
def w_M_tickets : List Cond := .code y_M_tickets b_M_tickets 3 (some (.int)) :: gw
abbrev b_M_durable : ByteArray := prog_7_method_28_code
def y_M_durable : MethodName := ⟨R_M, "durable", "()I"⟩
def w_M_durable : List Cond := .code y_M_durable b_M_durable 3 (some (.int)) :: gw
abbrev b_M_liveCount : ByteArray := prog_7_method_55_code
def y_M_liveCount : MethodName := ⟨R_M, "liveCount", "()I"⟩
def w_M_liveCount : List Cond := .code y_M_liveCount b_M_liveCount 3 (some (.int)) :: gw
abbrev b_M_freePages : ByteArray := prog_7_method_56_code
def y_M_freePages : MethodName := ⟨R_M, "freePages", "()I"⟩
def w_M_freePages : List Cond := .code y_M_freePages b_M_freePages 3 (some (.int)) :: gw
abbrev b_M_latest : ByteArray := prog_7_method_48_code
def y_M_latest : MethodName := ⟨R_M, "latest", "(I)I"⟩
def w_M_latest : List Cond := .code y_M_latest b_M_latest 4 (some (.int)) :: gw
abbrev b_M_axle : ByteArray := prog_7_method_30_code
def y_M_axle : MethodName := ⟨R_M, "axle", "(I)I"⟩
def w_M_axle : List Cond := .code y_M_axle b_M_axle 2 (some (.int)) :: gw
abbrev b_M_close : ByteArray := prog_7_method_31_code
def y_M_close : MethodName := ⟨R_M, "close", "(IIII)I"⟩
def w_M_close : List Cond := .code y_M_close b_M_close 7 (some (.int)) :: gw
abbrev b_M_annul : ByteArray := prog_7_method_32_code
def y_M_annul : MethodName := ⟨R_M, "annul", "(II)I"⟩
def w_M_annul : List Cond := .code y_M_annul b_M_annul 4 (some (.int)) :: gw
abbrev b_M_sync : ByteArray := prog_7_method_33_code
def y_M_sync : MethodName := ⟨R_M, "sync", "()I"⟩
def w_M_sync : List Cond := .code y_M_sync b_M_sync 3 (some (.int)) :: gw
abbrev b_M_ticket : ByteArray := prog_7_method_34_code
def y_M_ticket : MethodName := ⟨R_M, "ticket", "(II)I"⟩
def w_M_ticket : List Cond := .code y_M_ticket b_M_ticket 4 (some (.int)) :: gw
abbrev b_M_dayTotal : ByteArray := prog_7_method_36_code
def y_M_dayTotal : MethodName := ⟨R_M, "dayTotal", "(II)J"⟩
def w_M_dayTotal : List Cond := .code y_M_dayTotal b_M_dayTotal 7 (some (.long)) :: gw
abbrev b_M_rangeTotal : ByteArray := prog_7_method_37_code
def y_M_rangeTotal : MethodName := ⟨R_M, "rangeTotal", "(II)J"⟩
def w_M_rangeTotal : List Cond := .code y_M_rangeTotal b_M_rangeTotal 6 (some (.long)) :: gw
abbrev b_M_find : ByteArray := prog_7_method_38_code
def y_M_find : MethodName := ⟨R_M, "find", "(II)I"⟩
def w_M_find : List Cond := .code y_M_find b_M_find 4 (some (.int)) :: gw
abbrev b_M_audit : ByteArray := prog_7_method_41_code
def y_M_audit : MethodName := ⟨R_M, "audit", "(II)I"⟩
def w_M_audit : List Cond := .code y_M_audit b_M_audit 4 (some (.int)) :: gw
abbrev b_M_exportByte : ByteArray := prog_7_method_44_code
def y_M_exportByte : MethodName := ⟨R_M, "exportByte", "(III)I"⟩
def w_M_exportByte : List Cond := .code y_M_exportByte b_M_exportByte 6 (some (.int)) :: gw
abbrev b_M_setProduct : ByteArray := prog_7_method_45_code
def y_M_setProduct : MethodName := ⟨R_M, "setProduct", "(IZ)V"⟩
def w_M_setProduct : List Cond := .code y_M_setProduct b_M_setProduct 3 none :: gw
abbrev b_M_cutAfter : ByteArray := prog_7_method_46_code
def y_M_cutAfter : MethodName := ⟨R_M, "cutAfter", "(I)V"⟩
def w_M_cutAfter : List Cond := .code y_M_cutAfter b_M_cutAfter 2 none :: gw
abbrev b_M_crash : ByteArray := prog_7_method_47_code
def y_M_crash : MethodName := ⟨R_M, "crash", "()V"⟩
def w_M_crash : List Cond := .code y_M_crash b_M_crash 1 none :: gw
abbrev b_M_mount : ByteArray := prog_7_method_49_code
def y_M_mount : MethodName := ⟨R_M, "mount", "()I"⟩
def w_M_mount : List Cond := .code y_M_mount b_M_mount 6 (some (.int)) :: gw
abbrev b_M_wearOf : ByteArray := prog_7_method_50_code
def y_M_wearOf : MethodName := ⟨R_M, "wearOf", "(I)I"⟩
def w_M_wearOf : List Cond := .code y_M_wearOf b_M_wearOf 2 (some (.int)) :: gw
abbrev b_M_failBlock : ByteArray := prog_7_method_51_code
def y_M_failBlock : MethodName := ⟨R_M, "failBlock", "(I)V"⟩
def w_M_failBlock : List Cond := .code y_M_failBlock b_M_failBlock 2 none :: gw
abbrev b_M_poke : ByteArray := prog_7_method_52_code
def y_M_poke : MethodName := ⟨R_M, "poke", "(III)V"⟩
def w_M_poke : List Cond := .code y_M_poke b_M_poke 4 none :: gw
abbrev b_M_word : ByteArray := prog_7_method_53_code
def y_M_word : MethodName := ⟨R_M, "word", "(II)I"⟩
def w_M_word : List Cond := .code y_M_word b_M_word 3 (some (.int)) :: gw
abbrev b_M_state : ByteArray := prog_7_method_54_code
def y_M_state : MethodName := ⟨R_M, "state", "(I)I"⟩
def w_M_state : List Cond := .code y_M_state b_M_state 2 (some (.int)) :: gw
abbrev b_R_requireArgument : ByteArray := prog_1_method_26_code
def y_R_requireArgument : MethodName := ⟨R_R, "requireArgument", "(Z)V"⟩
def w_R_requireArgument : List Cond := .code y_R_requireArgument b_R_requireArgument 1 none :: gw
abbrev b_R_requireState : ByteArray := prog_1_method_27_code
def y_R_requireState : MethodName := ⟨R_R, "requireState", "(Z)V"⟩
def w_R_requireState : List Cond := .code y_R_requireState b_R_requireState 1 none :: gw
abbrev b_R_requireIndex : ByteArray := prog_1_method_28_code
def y_R_requireIndex : MethodName := ⟨R_R, "requireIndex", "(Z)V"⟩
def w_R_requireIndex : List Cond := .code y_R_requireIndex b_R_requireIndex 1 none :: gw
abbrev b_R_isProduct : ByteArray := prog_1_method_24_code
def y_R_isProduct : MethodName := ⟨R_R, "isProduct", "(I)Z"⟩
def w_R_isProduct : List Cond := .code y_R_isProduct b_R_isProduct 1 (some (.boolean)) :: gw
abbrev b_R_isPlace : ByteArray := prog_1_method_25_code
def y_R_isPlace : MethodName := ⟨R_R, "isPlace", "(II)Z"⟩
def w_R_isPlace : List Cond := .code y_R_isPlace b_R_isPlace 2 (some (.boolean)) :: gw
abbrev b_R_axle : ByteArray := prog_1_method_2_code
def y_R_axle : MethodName := ⟨R_R, "axle", "(I)I"⟩
def w_R_axle : List Cond := .code y_R_axle b_R_axle 2 (some (.int)) :: gw
abbrev b_R_close : ByteArray := prog_1_method_3_code
def y_R_close : MethodName := ⟨R_R, "close", "(IIII)I"⟩
def w_R_close : List Cond := .code y_R_close b_R_close 6 (some (.int)) :: gw
abbrev b_R_annul : ByteArray := prog_1_method_4_code
def y_R_annul : MethodName := ⟨R_R, "annul", "(II)I"⟩
def w_R_annul : List Cond := .code y_R_annul b_R_annul 3 (some (.int)) :: gw
abbrev b_R_sync : ByteArray := prog_1_method_5_code
def y_R_sync : MethodName := ⟨R_R, "sync", "()I"⟩
def w_R_sync : List Cond := .code y_R_sync b_R_sync 2 (some (.int)) :: gw
abbrev b_R_dayTotal : ByteArray := prog_1_method_7_code
def y_R_dayTotal : MethodName := ⟨R_R, "dayTotal", "(II)J"⟩
def w_R_dayTotal : List Cond := .code y_R_dayTotal b_R_dayTotal 7 (some (.long)) :: gw
abbrev b_R_rangeTotal : ByteArray := prog_1_method_8_code
def y_R_rangeTotal : MethodName := ⟨R_R, "rangeTotal", "(II)J"⟩
def w_R_rangeTotal : List Cond := .code y_R_rangeTotal b_R_rangeTotal 7 (some (.long)) :: gw
abbrev b_R_find : ByteArray := prog_1_method_9_code
def y_R_find : MethodName := ⟨R_R, "find", "(II)I"⟩
def w_R_find : List Cond := .code y_R_find b_R_find 4 (some (.int)) :: gw
abbrev b_R_audit : ByteArray := prog_1_method_10_code
def y_R_audit : MethodName := ⟨R_R, "audit", "(II)I"⟩
def w_R_audit : List Cond := .code y_R_audit b_R_audit 5 (some (.int)) :: gw
abbrev b_R_exportByte : ByteArray := prog_1_method_11_code
def y_R_exportByte : MethodName := ⟨R_R, "exportByte", "(III)I"⟩
def w_R_exportByte : List Cond := .code y_R_exportByte b_R_exportByte 7 (some (.int)) :: gw
abbrev b_R_setProduct : ByteArray := prog_1_method_12_code
def y_R_setProduct : MethodName := ⟨R_R, "setProduct", "(IZ)V"⟩
def w_R_setProduct : List Cond := .code y_R_setProduct b_R_setProduct 3 none :: gw
abbrev b_R_cutAfter : ByteArray := prog_1_method_13_code
def y_R_cutAfter : MethodName := ⟨R_R, "cutAfter", "(I)V"⟩
def w_R_cutAfter : List Cond := .code y_R_cutAfter b_R_cutAfter 2 none :: gw
abbrev b_R_wearOf : ByteArray := prog_1_method_16_code
def y_R_wearOf : MethodName := ⟨R_R, "wearOf", "(I)I"⟩
def w_R_wearOf : List Cond := .code y_R_wearOf b_R_wearOf 2 (some (.int)) :: gw
abbrev b_R_failBlock : ByteArray := prog_1_method_17_code
def y_R_failBlock : MethodName := ⟨R_R, "failBlock", "(I)V"⟩
def w_R_failBlock : List Cond := .code y_R_failBlock b_R_failBlock 2 none :: gw
abbrev b_R_poke : ByteArray := prog_1_method_18_code
def y_R_poke : MethodName := ⟨R_R, "poke", "(III)V"⟩
def w_R_poke : List Cond := .code y_R_poke b_R_poke 4 none :: gw
abbrev b_R_word : ByteArray := prog_1_method_19_code
def y_R_word : MethodName := ⟨R_R, "word", "(II)I"⟩
def w_R_word : List Cond := .code y_R_word b_R_word 3 (some (.int)) :: gw
abbrev b_R_state : ByteArray := prog_1_method_20_code
def y_R_state : MethodName := ⟨R_R, "state", "(I)I"⟩
def w_R_state : List Cond := .code y_R_state b_R_state 3 (some (.int)) :: gw
abbrev b_R_ticket : ByteArray := prog_1_method_6_code
def y_R_ticket : MethodName := ⟨R_R, "ticket", "(II)I"⟩
def w_R_ticket : List Cond := .code y_R_ticket b_R_ticket 3 (some (.int)) :: gw
abbrev b_L_axle : ByteArray := method_3_code
def y_L_axle : MethodName := ⟨R_L, "axle", "(LWeighRecorder;I[J)I"⟩
def w_L_axle : List Cond := .codeWith y_L_axle b_L_axle 4 (some (.int)) [(0, 9, 12, 13), (0, 9, 15, 15)] :: gw
abbrev b_L_close : ByteArray := method_4_code
def y_L_close : MethodName := ⟨R_L, "close", "(LWeighRecorder;IIII[J)I"⟩
def w_L_close : List Cond := .codeWith y_L_close b_L_close 7 (some (.int)) [(0, 14, 17, 13), (0, 14, 21, 15)] :: gw
abbrev b_L_annul : ByteArray := method_5_code
def y_L_annul : MethodName := ⟨R_L, "annul", "(LWeighRecorder;II[J)I"⟩
def w_L_annul : List Cond := .codeWith y_L_annul b_L_annul 5 (some (.int)) [(0, 10, 13, 13), (0, 10, 17, 15)] :: gw
abbrev b_L_sync : ByteArray := method_6_code
def y_L_sync : MethodName := ⟨R_L, "sync", "(LWeighRecorder;[J)I"⟩
def w_L_sync : List Cond := .codeWith y_L_sync b_L_sync 3 (some (.int)) [(0, 8, 11, 15)] :: gw
abbrev b_L_dayTotal : ByteArray := method_8_code
def y_L_dayTotal : MethodName := ⟨R_L, "dayTotal", "(LWeighRecorder;II[J)I"⟩
def w_L_dayTotal : List Cond := .codeWith y_L_dayTotal b_L_dayTotal 5 (some (.int)) [(0, 9, 12, 15)] :: gw
abbrev b_L_rangeTotal : ByteArray := method_9_code
def y_L_rangeTotal : MethodName := ⟨R_L, "rangeTotal", "(LWeighRecorder;II[J)I"⟩
def w_L_rangeTotal : List Cond := .codeWith y_L_rangeTotal b_L_rangeTotal 5 (some (.int)) [(0, 9, 12, 15)] :: gw
abbrev b_L_find : ByteArray := method_10_code
def y_L_find : MethodName := ⟨R_L, "find", "(LWeighRecorder;II[J)I"⟩
def w_L_find : List Cond := .codeWith y_L_find b_L_find 5 (some (.int)) [(0, 10, 13, 15)] :: gw
abbrev b_L_audit : ByteArray := method_11_code
def y_L_audit : MethodName := ⟨R_L, "audit", "(LWeighRecorder;II[J)I"⟩
def w_L_audit : List Cond := .codeWith y_L_audit b_L_audit 5 (some (.int)) [(0, 10, 13, 15)] :: gw
abbrev b_L_exportByte : ByteArray := method_12_code
def y_L_exportByte : MethodName := ⟨R_L, "exportByte", "(LWeighRecorder;III[J)I"⟩
def w_L_exportByte : List Cond := .codeWith y_L_exportByte b_L_exportByte 6 (some (.int)) [(0, 12, 15, 15)] :: gw
abbrev b_L_wearOf : ByteArray := method_15_code
def y_L_wearOf : MethodName := ⟨R_L, "wearOf", "(LWeighRecorder;I[J)I"⟩
def w_L_wearOf : List Cond := .codeWith y_L_wearOf b_L_wearOf 4 (some (.int)) [(0, 9, 12, 13)] :: gw
abbrev b_L_word : ByteArray := method_18_code
def y_L_word : MethodName := ⟨R_L, "word", "(LWeighRecorder;II[J)I"⟩
def w_L_word : List Cond := .codeWith y_L_word b_L_word 5 (some (.int)) [(0, 10, 13, 32)] :: gw
abbrev b_L_setProduct : ByteArray := method_13_code
def y_L_setProduct : MethodName := ⟨R_L, "setProduct", "(LWeighRecorder;IZ)I"⟩
def w_L_setProduct : List Cond := .codeWith y_L_setProduct b_L_setProduct 4 (some (.int)) [(0, 6, 9, 13)] :: gw
abbrev b_L_cutAfter : ByteArray := method_14_code
def y_L_cutAfter : MethodName := ⟨R_L, "cutAfter", "(LWeighRecorder;I)I"⟩
def w_L_cutAfter : List Cond := .codeWith y_L_cutAfter b_L_cutAfter 3 (some (.int)) [(0, 5, 8, 13)] :: gw
abbrev b_L_failBlock : ByteArray := method_16_code
def y_L_failBlock : MethodName := ⟨R_L, "failBlock", "(LWeighRecorder;I)I"⟩
def w_L_failBlock : List Cond := .codeWith y_L_failBlock b_L_failBlock 3 (some (.int)) [(0, 5, 8, 13)] :: gw
abbrev b_L_poke : ByteArray := method_17_code
def y_L_poke : MethodName := ⟨R_L, "poke", "(LWeighRecorder;III)I"⟩
def w_L_poke : List Cond := .codeWith y_L_poke b_L_poke 5 (some (.int)) [(0, 7, 10, 13)] :: gw
abbrev b_L_ticket : ByteArray := method_7_code
def y_L_ticket : MethodName := ⟨R_L, "ticket", "(LWeighRecorder;II[J)I"⟩
def w_L_ticket : List Cond := .codeWith y_L_ticket b_L_ticket 5 (some (.int)) [(0, 10, 13, 15), (0, 10, 17, 32)] :: gw
theorem t_37 : (.fieldLink R_C 22 R_C "powered" "Z" : Cond) ∈ gw := gw_in (tb_1 (List.mem_of_getElem? (i := 37) rfl)) (by first | rfl | decide +kernel)
theorem t_34 : (.fieldLink R_C 9 R_C "words" "[I" : Cond) ∈ gw := gw_in (tb_1 (List.mem_of_getElem? (i := 34) rfl)) (by first | rfl | decide +kernel)
theorem t_35 : (.fieldLink R_C 15 R_C "wear" "[I" : Cond) ∈ gw := gw_in (tb_1 (List.mem_of_getElem? (i := 35) rfl)) (by first | rfl | decide +kernel)
theorem t_164 : (.methodLink R_C 34 y_C_read : Cond) ∈ gw := gw_in (tb_1 (List.mem_of_getElem? (i := 164) rfl)) (by first | rfl | decide +kernel)
theorem t_167 : (.code y_C_read b_C_read 3 (some (.int)) : Cond) ∈ gw := gw_in (tb_1 (List.mem_of_getElem? (i := 167) rfl)) (by first | rfl | decide +kernel)
theorem t_165 : (.instanceMethod y_C_read : Cond) ∈ gw := gw_in (tb_1 (List.mem_of_getElem? (i := 165) rfl)) (by first | rfl | decide +kernel)
theorem t_166 : (.selects R_C y_C_read y_C_read : Cond) ∈ gw := gw_in (tb_1 (List.mem_of_getElem? (i := 166) rfl)) (by first | rfl | decide +kernel)
theorem t_3 : (.initialized R_C : Cond) ∈ gw := gw_in (tb_1 (List.mem_of_getElem? (i := 3) rfl)) (by first | rfl | decide +kernel)
theorem t_258 : (.methodLink R_C 43 y_C_isFree : Cond) ∈ gw := gw_in (tb_2 (List.mem_of_getElem? (i := 18) rfl)) (by first | rfl | decide +kernel)
theorem t_261 : (.code y_C_isFree b_C_isFree 4 (some (.boolean)) : Cond) ∈ gw := gw_in (tb_2 (List.mem_of_getElem? (i := 21) rfl)) (by first | rfl | decide +kernel)
theorem t_259 : (.instanceMethod y_C_isFree : Cond) ∈ gw := gw_in (tb_2 (List.mem_of_getElem? (i := 19) rfl)) (by first | rfl | decide +kernel)
theorem t_260 : (.selects R_C y_C_isFree y_C_isFree : Cond) ∈ gw := gw_in (tb_2 (List.mem_of_getElem? (i := 20) rfl)) (by first | rfl | decide +kernel)
theorem t_36 : (.fieldLink R_C 18 R_C "failed" "[Z" : Cond) ∈ gw := gw_in (tb_1 (List.mem_of_getElem? (i := 36) rfl)) (by first | rfl | decide +kernel)
theorem t_254 : (.methodLink R_C 47 y_C_freePagesOf : Cond) ∈ gw := gw_in (tb_2 (List.mem_of_getElem? (i := 14) rfl)) (by first | rfl | decide +kernel)
theorem t_257 : (.code y_C_freePagesOf b_C_freePagesOf 4 (some (.int)) : Cond) ∈ gw := gw_in (tb_2 (List.mem_of_getElem? (i := 17) rfl)) (by first | rfl | decide +kernel)
theorem t_255 : (.instanceMethod y_C_freePagesOf : Cond) ∈ gw := gw_in (tb_2 (List.mem_of_getElem? (i := 15) rfl)) (by first | rfl | decide +kernel)
theorem t_256 : (.selects R_C y_C_freePagesOf y_C_freePagesOf : Cond) ∈ gw := gw_in (tb_2 (List.mem_of_getElem? (i := 16) rfl)) (by first | rfl | decide +kernel)
theorem t_38 : (.fieldLink R_C 26 R_C "stepsToCut" "I" : Cond) ∈ gw := gw_in (tb_1 (List.mem_of_getElem? (i := 38) rfl)) (by first | rfl | decide +kernel)
theorem t_87 : (.fieldLink R_G 21 R_G "records" "I" : Cond) ∈ gw := gw_in (tb_1 (List.mem_of_getElem? (i := 87) rfl)) (by first | rfl | decide +kernel)
theorem t_88 : (.fieldLink R_G 25 R_G "tickets" "I" : Cond) ∈ gw := gw_in (tb_1 (List.mem_of_getElem? (i := 88) rfl)) (by first | rfl | decide +kernel)
theorem t_57 : (.fieldLink R_S 32 R_S "durable" "I" : Cond) ∈ gw := gw_in (tb_1 (List.mem_of_getElem? (i := 57) rfl)) (by first | rfl | decide +kernel)
theorem t_56 : (.fieldLink R_S 29 R_S "serial" "I" : Cond) ∈ gw := gw_in (tb_1 (List.mem_of_getElem? (i := 56) rfl)) (by first | rfl | decide +kernel)
theorem t_55 : (.fieldLink R_S 25 R_S "cursor" "I" : Cond) ∈ gw := gw_in (tb_1 (List.mem_of_getElem? (i := 55) rfl)) (by first | rfl | decide +kernel)
theorem t_53 : (.fieldLink R_S 18 R_S "livePages" "[I" : Cond) ∈ gw := gw_in (tb_1 (List.mem_of_getElem? (i := 53) rfl)) (by first | rfl | decide +kernel)
theorem t_238 : (.methodLink R_S 39 y_S_isLive : Cond) ∈ gw := gw_in (tb_1 (List.mem_of_getElem? (i := 238) rfl)) (by first | rfl | decide +kernel)
theorem t_241 : (.code y_S_isLive b_S_isLive 3 (some (.boolean)) : Cond) ∈ gw := gw_in (tb_2 (List.mem_of_getElem? (i := 1) rfl)) (by first | rfl | decide +kernel)
theorem t_240 : (.instanceMethod y_S_isLive : Cond) ∈ gw := gw_in (tb_2 (List.mem_of_getElem? (i := 0) rfl)) (by first | rfl | decide +kernel)
theorem t_2 : (.initialized R_S : Cond) ∈ gw := gw_in (tb_1 (List.mem_of_getElem? (i := 2) rfl)) (by first | rfl | decide +kernel)
theorem t_52 : (.fieldLink R_S 12 R_S "chip" "LWeighRecorder$Chip;" : Cond) ∈ gw := gw_in (tb_1 (List.mem_of_getElem? (i := 52) rfl)) (by first | rfl | decide +kernel)
theorem t_160 : (.methodLink R_S 120 y_C_isRight : Cond) ∈ gw := gw_in (tb_1 (List.mem_of_getElem? (i := 160) rfl)) (by first | rfl | decide +kernel)
theorem t_163 : (.code y_C_isRight b_C_isRight 3 (some (.boolean)) : Cond) ∈ gw := gw_in (tb_1 (List.mem_of_getElem? (i := 163) rfl)) (by first | rfl | decide +kernel)
theorem t_161 : (.instanceMethod y_C_isRight : Cond) ∈ gw := gw_in (tb_1 (List.mem_of_getElem? (i := 161) rfl)) (by first | rfl | decide +kernel)
theorem t_162 : (.selects R_C y_C_isRight y_C_isRight : Cond) ∈ gw := gw_in (tb_1 (List.mem_of_getElem? (i := 162) rfl)) (by first | rfl | decide +kernel)
theorem t_156 : (.methodLink R_S 110 y_S_findNewestPages : Cond) ∈ gw := gw_in (tb_1 (List.mem_of_getElem? (i := 156) rfl)) (by first | rfl | decide +kernel)
theorem t_159 : (.code y_S_findNewestPages b_S_findNewestPages 4 (some (.int)) : Cond) ∈ gw := gw_in (tb_1 (List.mem_of_getElem? (i := 159) rfl)) (by first | rfl | decide +kernel)
theorem t_158 : (.instanceMethod y_S_findNewestPages : Cond) ∈ gw := gw_in (tb_1 (List.mem_of_getElem? (i := 158) rfl)) (by first | rfl | decide +kernel)
theorem t_58 : (.fieldLink R_S 35 R_S "wornOut" "Z" : Cond) ∈ gw := gw_in (tb_1 (List.mem_of_getElem? (i := 58) rfl)) (by first | rfl | decide +kernel)
theorem t_178 : (.methodLink R_S 113 y_G_empty : Cond) ∈ gw := gw_in (tb_1 (List.mem_of_getElem? (i := 178) rfl)) (by first | rfl | decide +kernel)
theorem t_181 : (.code y_G_empty b_G_empty 1 none : Cond) ∈ gw := gw_in (tb_1 (List.mem_of_getElem? (i := 181) rfl)) (by first | rfl | decide +kernel)
theorem t_179 : (.instanceMethod y_G_empty : Cond) ∈ gw := gw_in (tb_1 (List.mem_of_getElem? (i := 179) rfl)) (by first | rfl | decide +kernel)
theorem t_180 : (.selects R_G y_G_empty y_G_empty : Cond) ∈ gw := gw_in (tb_1 (List.mem_of_getElem? (i := 180) rfl)) (by first | rfl | decide +kernel)
theorem t_4 : (.initialized R_G : Cond) ∈ gw := gw_in (tb_1 (List.mem_of_getElem? (i := 4) rfl)) (by first | rfl | decide +kernel)
theorem t_209 : (.methodLink R_S 96 y_G_recordCount : Cond) ∈ gw := gw_in (tb_1 (List.mem_of_getElem? (i := 209) rfl)) (by first | rfl | decide +kernel)
theorem t_212 : (.code y_G_recordCount b_G_recordCount 1 (some (.int)) : Cond) ∈ gw := gw_in (tb_1 (List.mem_of_getElem? (i := 212) rfl)) (by first | rfl | decide +kernel)
theorem t_210 : (.instanceMethod y_G_recordCount : Cond) ∈ gw := gw_in (tb_1 (List.mem_of_getElem? (i := 210) rfl)) (by first | rfl | decide +kernel)
theorem t_211 : (.selects R_G y_G_recordCount y_G_recordCount : Cond) ∈ gw := gw_in (tb_1 (List.mem_of_getElem? (i := 211) rfl)) (by first | rfl | decide +kernel)
theorem t_119 : (.fieldLink R_R 41 R_R "readings" "I" : Cond) ∈ gw := gw_in (tb_1 (List.mem_of_getElem? (i := 119) rfl)) (by first | rfl | decide +kernel)
theorem t_120 : (.fieldLink R_R 45 R_R "readSteps" "I" : Cond) ∈ gw := gw_in (tb_1 (List.mem_of_getElem? (i := 120) rfl)) (by first | rfl | decide +kernel)
theorem t_115 : (.fieldLink R_R 20 R_R "chip" "LWeighRecorder$Chip;" : Cond) ∈ gw := gw_in (tb_1 (List.mem_of_getElem? (i := 115) rfl)) (by first | rfl | decide +kernel)
theorem t_140 : (.methodLink R_R 162 y_C_turnOff : Cond) ∈ gw := gw_in (tb_1 (List.mem_of_getElem? (i := 140) rfl)) (by first | rfl | decide +kernel)
theorem t_143 : (.code y_C_turnOff b_C_turnOff 1 none : Cond) ∈ gw := gw_in (tb_1 (List.mem_of_getElem? (i := 143) rfl)) (by first | rfl | decide +kernel)
theorem t_141 : (.instanceMethod y_C_turnOff : Cond) ∈ gw := gw_in (tb_1 (List.mem_of_getElem? (i := 141) rfl)) (by first | rfl | decide +kernel)
theorem t_142 : (.selects R_C y_C_turnOff y_C_turnOff : Cond) ∈ gw := gw_in (tb_1 (List.mem_of_getElem? (i := 142) rfl)) (by first | rfl | decide +kernel)
theorem t_148 : (.methodLink R_R 78 y_R_forgetReadings : Cond) ∈ gw := gw_in (tb_1 (List.mem_of_getElem? (i := 148) rfl)) (by first | rfl | decide +kernel)
theorem t_151 : (.code y_R_forgetReadings b_R_forgetReadings 1 none : Cond) ∈ gw := gw_in (tb_1 (List.mem_of_getElem? (i := 151) rfl)) (by first | rfl | decide +kernel)
theorem t_150 : (.instanceMethod y_R_forgetReadings : Cond) ∈ gw := gw_in (tb_1 (List.mem_of_getElem? (i := 150) rfl)) (by first | rfl | decide +kernel)
theorem t_1 : (.initialized R_R : Cond) ∈ gw := gw_in (tb_1 (List.mem_of_getElem? (i := 1) rfl)) (by first | rfl | decide +kernel)
theorem t_114 : (.fieldLink R_R 12 R_R "store" "LWeighRecorder$Store;" : Cond) ∈ gw := gw_in (tb_1 (List.mem_of_getElem? (i := 114) rfl)) (by first | rfl | decide +kernel)
theorem t_116 : (.fieldLink R_R 26 R_R "log" "LWeighRecorder$Log;" : Cond) ∈ gw := gw_in (tb_1 (List.mem_of_getElem? (i := 116) rfl)) (by first | rfl | decide +kernel)
theorem t_152 : (.methodLink R_R 165 y_S_restore : Cond) ∈ gw := gw_in (tb_1 (List.mem_of_getElem? (i := 152) rfl)) (by first | rfl | decide +kernel)
theorem t_155 : (.code y_S_restore b_S_restore 5 none : Cond) ∈ gw := gw_in (tb_1 (List.mem_of_getElem? (i := 155) rfl)) (by first | rfl | decide +kernel)
theorem t_153 : (.instanceMethod y_S_restore : Cond) ∈ gw := gw_in (tb_1 (List.mem_of_getElem? (i := 153) rfl)) (by first | rfl | decide +kernel)
theorem t_154 : (.selects R_S y_S_restore y_S_restore : Cond) ∈ gw := gw_in (tb_1 (List.mem_of_getElem? (i := 154) rfl)) (by first | rfl | decide +kernel)
theorem t_213 : (.methodLink R_R 169 y_C_turnOn : Cond) ∈ gw := gw_in (tb_1 (List.mem_of_getElem? (i := 213) rfl)) (by first | rfl | decide +kernel)
theorem t_216 : (.code y_C_turnOn b_C_turnOn 1 none : Cond) ∈ gw := gw_in (tb_1 (List.mem_of_getElem? (i := 216) rfl)) (by first | rfl | decide +kernel)
theorem t_214 : (.instanceMethod y_C_turnOn : Cond) ∈ gw := gw_in (tb_1 (List.mem_of_getElem? (i := 214) rfl)) (by first | rfl | decide +kernel)
theorem t_215 : (.selects R_C y_C_turnOn y_C_turnOn : Cond) ∈ gw := gw_in (tb_1 (List.mem_of_getElem? (i := 215) rfl)) (by first | rfl | decide +kernel)
theorem t_217 : (.methodLink R_R 81 y_G_ticketCount : Cond) ∈ gw := gw_in (tb_1 (List.mem_of_getElem? (i := 217) rfl)) (by first | rfl | decide +kernel)
theorem t_220 : (.code y_G_ticketCount b_G_ticketCount 1 (some (.int)) : Cond) ∈ gw := gw_in (tb_1 (List.mem_of_getElem? (i := 220) rfl)) (by first | rfl | decide +kernel)
theorem t_218 : (.instanceMethod y_G_ticketCount : Cond) ∈ gw := gw_in (tb_1 (List.mem_of_getElem? (i := 218) rfl)) (by first | rfl | decide +kernel)
theorem t_219 : (.selects R_G y_G_ticketCount y_G_ticketCount : Cond) ∈ gw := gw_in (tb_1 (List.mem_of_getElem? (i := 219) rfl)) (by first | rfl | decide +kernel)
theorem t_712 : (.fieldLink R_M 49 R_M "thrown" "I" : Cond) ∈ gw := gw_in (tb_3 (List.mem_of_getElem? (i := 232) rfl)) (by first | rfl | decide +kernel)
theorem t_719 : (.fieldLink R_M 52 R_M "records" "I" : Cond) ∈ gw := gw_in (tb_3 (List.mem_of_getElem? (i := 239) rfl)) (by first | rfl | decide +kernel)
theorem t_723 : (.fieldLink R_M 55 R_M "serial" "I" : Cond) ∈ gw := gw_in (tb_4 (List.mem_of_getElem? (i := 3) rfl)) (by first | rfl | decide +kernel)
theorem t_724 : (.fieldLink R_M 40 R_M "cursor" "I" : Cond) ∈ gw := gw_in (tb_4 (List.mem_of_getElem? (i := 4) rfl)) (by first | rfl | decide +kernel)
theorem t_725 : (.fieldLink R_M 58 R_M "readings" "I" : Cond) ∈ gw := gw_in (tb_4 (List.mem_of_getElem? (i := 5) rfl)) (by first | rfl | decide +kernel)
theorem t_726 : (.fieldLink R_M 61 R_M "weight" "I" : Cond) ∈ gw := gw_in (tb_4 (List.mem_of_getElem? (i := 6) rfl)) (by first | rfl | decide +kernel)
theorem t_727 : (.fieldLink R_M 64 R_M "worn" "Z" : Cond) ∈ gw := gw_in (tb_4 (List.mem_of_getElem? (i := 7) rfl)) (by first | rfl | decide +kernel)
theorem t_718 : (.fieldLink R_M 27 R_M "cut" "I" : Cond) ∈ gw := gw_in (tb_3 (List.mem_of_getElem? (i := 238) rfl)) (by first | rfl | decide +kernel)
theorem t_721 : (.fieldLink R_M 34 R_M "live" "[I" : Cond) ∈ gw := gw_in (tb_4 (List.mem_of_getElem? (i := 1) rfl)) (by first | rfl | decide +kernel)
theorem t_717 : (.fieldLink R_M 23 R_M "on" "Z" : Cond) ∈ gw := gw_in (tb_3 (List.mem_of_getElem? (i := 237) rfl)) (by first | rfl | decide +kernel)
theorem t_708 : (.methodLink R_M 46 y_M_forget : Cond) ∈ gw := gw_in (tb_3 (List.mem_of_getElem? (i := 228) rfl)) (by first | rfl | decide +kernel)
theorem t_711 : (.code y_M_forget b_M_forget 2 none : Cond) ∈ gw := gw_in (tb_3 (List.mem_of_getElem? (i := 231) rfl)) (by first | rfl | decide +kernel)
theorem t_710 : (.instanceMethod y_M_forget : Cond) ∈ gw := gw_in (tb_3 (List.mem_of_getElem? (i := 230) rfl)) (by first | rfl | decide +kernel)
theorem t_6 : (.initialized R_M : Cond) ∈ gw := gw_in (tb_1 (List.mem_of_getElem? (i := 6) rfl)) (by first | rfl | decide +kernel)
theorem t_713 : (.fieldLink R_M 7 R_M "chip" "[I" : Cond) ∈ gw := gw_in (tb_3 (List.mem_of_getElem? (i := 233) rfl)) (by first | rfl | decide +kernel)
theorem t_820 : (.methodLink R_M 80 y_M_isFree : Cond) ∈ gw := gw_in (tb_4 (List.mem_of_getElem? (i := 100) rfl)) (by first | rfl | decide +kernel)
theorem t_823 : (.code y_M_isFree b_M_isFree 4 (some (.boolean)) : Cond) ∈ gw := gw_in (tb_4 (List.mem_of_getElem? (i := 103) rfl)) (by first | rfl | decide +kernel)
theorem t_822 : (.instanceMethod y_M_isFree : Cond) ∈ gw := gw_in (tb_4 (List.mem_of_getElem? (i := 102) rfl)) (by first | rfl | decide +kernel)
theorem t_715 : (.fieldLink R_M 16 R_M "failed" "[Z" : Cond) ∈ gw := gw_in (tb_3 (List.mem_of_getElem? (i := 235) rfl)) (by first | rfl | decide +kernel)
theorem t_927 : (.methodLink R_M 163 y_M_isRight : Cond) ∈ gw := gw_in (tb_4 (List.mem_of_getElem? (i := 207) rfl)) (by first | rfl | decide +kernel)
theorem t_930 : (.code y_M_isRight b_M_isRight 3 (some (.boolean)) : Cond) ∈ gw := gw_in (tb_4 (List.mem_of_getElem? (i := 210) rfl)) (by first | rfl | decide +kernel)
theorem t_929 : (.instanceMethod y_M_isRight : Cond) ∈ gw := gw_in (tb_4 (List.mem_of_getElem? (i := 209) rfl)) (by first | rfl | decide +kernel)
theorem t_781 : (.methodLink R_M 130 y_M_isIn : Cond) ∈ gw := gw_in (tb_4 (List.mem_of_getElem? (i := 61) rfl)) (by first | rfl | decide +kernel)
theorem t_783 : (.code y_M_isIn b_M_isIn 3 (some (.boolean)) : Cond) ∈ gw := gw_in (tb_4 (List.mem_of_getElem? (i := 63) rfl)) (by first | rfl | decide +kernel)
theorem t_782 : (.static y_M_isIn : Cond) ∈ gw := gw_in (tb_4 (List.mem_of_getElem? (i := 62) rfl)) (by first | rfl | decide +kernel)
theorem t_784 : (.methodLink R_M 137 y_M_fails : Cond) ∈ gw := gw_in (tb_4 (List.mem_of_getElem? (i := 64) rfl)) (by first | rfl | decide +kernel)
theorem t_787 : (.code y_M_fails b_M_fails 3 (some (.boolean)) : Cond) ∈ gw := gw_in (tb_4 (List.mem_of_getElem? (i := 67) rfl)) (by first | rfl | decide +kernel)
theorem t_786 : (.instanceMethod y_M_fails : Cond) ∈ gw := gw_in (tb_4 (List.mem_of_getElem? (i := 66) rfl)) (by first | rfl | decide +kernel)
theorem t_792 : (.constant R_M 141 216000 : Cond) ∈ gw := gw_in (tb_4 (List.mem_of_getElem? (i := 72) rfl)) (by first | rfl | decide +kernel)
theorem t_793 : (.constant R_M 142 67108863 : Cond) ∈ gw := gw_in (tb_4 (List.mem_of_getElem? (i := 73) rfl)) (by first | rfl | decide +kernel)
theorem t_881 : (.methodLink R_M 127 y_M_placeOf : Cond) ∈ gw := gw_in (tb_4 (List.mem_of_getElem? (i := 161) rfl)) (by first | rfl | decide +kernel)
theorem t_884 : (.code y_M_placeOf b_M_placeOf 4 (some (.int)) : Cond) ∈ gw := gw_in (tb_4 (List.mem_of_getElem? (i := 164) rfl)) (by first | rfl | decide +kernel)
theorem t_883 : (.instanceMethod y_M_placeOf : Cond) ∈ gw := gw_in (tb_4 (List.mem_of_getElem? (i := 163) rfl)) (by first | rfl | decide +kernel)
theorem t_894 : (.methodLink R_M 156 y_M_durable : Cond) ∈ gw := gw_in (tb_4 (List.mem_of_getElem? (i := 174) rfl)) (by first | rfl | decide +kernel)
theorem t_897 : (.code y_M_durable b_M_durable 3 (some (.int)) : Cond) ∈ gw := gw_in (tb_4 (List.mem_of_getElem? (i := 177) rfl)) (by first | rfl | decide +kernel)
theorem t_896 : (.instanceMethod y_M_durable : Cond) ∈ gw := gw_in (tb_4 (List.mem_of_getElem? (i := 176) rfl)) (by first | rfl | decide +kernel)
theorem t_865 : (.methodLink R_M 149 y_M_tickets : Cond) ∈ gw := gw_in (tb_4 (List.mem_of_getElem? (i := 145) rfl)) (by first | rfl | decide +kernel)
theorem t_868 : (.code y_M_tickets b_M_tickets 3 (some (.int)) : Cond) ∈ gw := gw_in (tb_4 (List.mem_of_getElem? (i := 148) rfl)) (by first | rfl | decide +kernel)
theorem t_867 : (.instanceMethod y_M_tickets : Cond) ∈ gw := gw_in (tb_4 (List.mem_of_getElem? (i := 147) rfl)) (by first | rfl | decide +kernel)
theorem t_729 : (.fieldLink R_M 172 R_M "place" "I" : Cond) ∈ gw := gw_in (tb_4 (List.mem_of_getElem? (i := 9) rfl)) (by first | rfl | decide +kernel)
theorem t_730 : (.fieldLink R_M 175 R_M "sought" "I" : Cond) ∈ gw := gw_in (tb_4 (List.mem_of_getElem? (i := 10) rfl)) (by first | rfl | decide +kernel)
theorem t_731 : (.fieldLink R_M 178 R_M "found" "I" : Cond) ∈ gw := gw_in (tb_4 (List.mem_of_getElem? (i := 11) rfl)) (by first | rfl | decide +kernel)
theorem t_716 : (.fieldLink R_M 20 R_M "active" "[Z" : Cond) ∈ gw := gw_in (tb_3 (List.mem_of_getElem? (i := 236) rfl)) (by first | rfl | decide +kernel)
theorem t_853 : (.methodLink R_M 72 y_M_off : Cond) ∈ gw := gw_in (tb_4 (List.mem_of_getElem? (i := 133) rfl)) (by first | rfl | decide +kernel)
theorem t_856 : (.code y_M_off b_M_off 1 none : Cond) ∈ gw := gw_in (tb_4 (List.mem_of_getElem? (i := 136) rfl)) (by first | rfl | decide +kernel)
theorem t_855 : (.instanceMethod y_M_off : Cond) ∈ gw := gw_in (tb_4 (List.mem_of_getElem? (i := 135) rfl)) (by first | rfl | decide +kernel)
theorem t_966 : (.methodLink R_M 195 y_M_latest : Cond) ∈ gw := gw_in (tb_5 (List.mem_of_getElem? (i := 6) rfl)) (by first | rfl | decide +kernel)
theorem t_969 : (.code y_M_latest b_M_latest 4 (some (.int)) : Cond) ∈ gw := gw_in (tb_5 (List.mem_of_getElem? (i := 9) rfl)) (by first | rfl | decide +kernel)
theorem t_968 : (.instanceMethod y_M_latest : Cond) ∈ gw := gw_in (tb_5 (List.mem_of_getElem? (i := 8) rfl)) (by first | rfl | decide +kernel)
theorem t_714 : (.fieldLink R_M 13 R_M "wear" "[I" : Cond) ∈ gw := gw_in (tb_3 (List.mem_of_getElem? (i := 234) rfl)) (by first | rfl | decide +kernel)
theorem t_990 : (.methodLink R_M 198 y_M_liveCount : Cond) ∈ gw := gw_in (tb_5 (List.mem_of_getElem? (i := 30) rfl)) (by first | rfl | decide +kernel)
theorem t_993 : (.code y_M_liveCount b_M_liveCount 3 (some (.int)) : Cond) ∈ gw := gw_in (tb_5 (List.mem_of_getElem? (i := 33) rfl)) (by first | rfl | decide +kernel)
theorem t_992 : (.instanceMethod y_M_liveCount : Cond) ∈ gw := gw_in (tb_5 (List.mem_of_getElem? (i := 32) rfl)) (by first | rfl | decide +kernel)
theorem t_994 : (.methodLink R_M 201 y_M_freePages : Cond) ∈ gw := gw_in (tb_5 (List.mem_of_getElem? (i := 34) rfl)) (by first | rfl | decide +kernel)
theorem t_997 : (.code y_M_freePages b_M_freePages 3 (some (.int)) : Cond) ∈ gw := gw_in (tb_5 (List.mem_of_getElem? (i := 37) rfl)) (by first | rfl | decide +kernel)
theorem t_996 : (.instanceMethod y_M_freePages : Cond) ∈ gw := gw_in (tb_5 (List.mem_of_getElem? (i := 36) rfl)) (by first | rfl | decide +kernel)
theorem t_275 : (.classLink R_R 210 E_A : Cond) ∈ gw := gw_in (tb_2 (List.mem_of_getElem? (i := 35) rfl)) (by first | rfl | decide +kernel)
theorem t_10 : (.initialized E_A : Cond) ∈ gw := gw_in (tb_1 (List.mem_of_getElem? (i := 10) rfl)) (by first | rfl | decide +kernel)
theorem t_341 : (.classLink R_R 213 E_S : Cond) ∈ gw := gw_in (tb_2 (List.mem_of_getElem? (i := 101) rfl)) (by first | rfl | decide +kernel)
theorem t_11 : (.initialized E_S : Cond) ∈ gw := gw_in (tb_1 (List.mem_of_getElem? (i := 11) rfl)) (by first | rfl | decide +kernel)
theorem t_494 : (.classLink R_R 216 E_I : Cond) ∈ gw := gw_in (tb_3 (List.mem_of_getElem? (i := 14) rfl)) (by first | rfl | decide +kernel)
theorem t_12 : (.initialized E_I : Cond) ∈ gw := gw_in (tb_1 (List.mem_of_getElem? (i := 12) rfl)) (by first | rfl | decide +kernel)
theorem t_271 : (.methodLink R_R 48 y_R_isWithin : Cond) ∈ gw := gw_in (tb_2 (List.mem_of_getElem? (i := 31) rfl)) (by first | rfl | decide +kernel)
theorem t_208 : (.code y_R_isWithin b_R_isWithin 3 (some (.boolean)) : Cond) ∈ gw := gw_in (tb_1 (List.mem_of_getElem? (i := 208) rfl)) (by first | rfl | decide +kernel)
theorem t_207 : (.static y_R_isWithin : Cond) ∈ gw := gw_in (tb_1 (List.mem_of_getElem? (i := 207) rfl)) (by first | rfl | decide +kernel)
theorem t_272 : (.methodLink R_R 52 y_R_requireArgument : Cond) ∈ gw := gw_in (tb_2 (List.mem_of_getElem? (i := 32) rfl)) (by first | rfl | decide +kernel)
theorem t_274 : (.code y_R_requireArgument b_R_requireArgument 1 none : Cond) ∈ gw := gw_in (tb_2 (List.mem_of_getElem? (i := 34) rfl)) (by first | rfl | decide +kernel)
theorem t_273 : (.static y_R_requireArgument : Cond) ∈ gw := gw_in (tb_2 (List.mem_of_getElem? (i := 33) rfl)) (by first | rfl | decide +kernel)
theorem t_225 : (.methodLink R_R 56 y_C_isPowered : Cond) ∈ gw := gw_in (tb_1 (List.mem_of_getElem? (i := 225) rfl)) (by first | rfl | decide +kernel)
theorem t_228 : (.code y_C_isPowered b_C_isPowered 1 (some (.boolean)) : Cond) ∈ gw := gw_in (tb_1 (List.mem_of_getElem? (i := 228) rfl)) (by first | rfl | decide +kernel)
theorem t_226 : (.instanceMethod y_C_isPowered : Cond) ∈ gw := gw_in (tb_1 (List.mem_of_getElem? (i := 226) rfl)) (by first | rfl | decide +kernel)
theorem t_227 : (.selects R_C y_C_isPowered y_C_isPowered : Cond) ∈ gw := gw_in (tb_1 (List.mem_of_getElem? (i := 227) rfl)) (by first | rfl | decide +kernel)
theorem t_338 : (.methodLink R_R 62 y_R_requireState : Cond) ∈ gw := gw_in (tb_2 (List.mem_of_getElem? (i := 98) rfl)) (by first | rfl | decide +kernel)
theorem t_340 : (.code y_R_requireState b_R_requireState 1 none : Cond) ∈ gw := gw_in (tb_2 (List.mem_of_getElem? (i := 100) rfl)) (by first | rfl | decide +kernel)
theorem t_339 : (.static y_R_requireState : Cond) ∈ gw := gw_in (tb_2 (List.mem_of_getElem? (i := 99) rfl)) (by first | rfl | decide +kernel)
theorem t_363 : (.constant R_R 65 216000 : Cond) ∈ gw := gw_in (tb_2 (List.mem_of_getElem? (i := 123) rfl)) (by first | rfl | decide +kernel)
theorem t_364 : (.methodLink R_R 66 y_R_isProduct : Cond) ∈ gw := gw_in (tb_2 (List.mem_of_getElem? (i := 124) rfl)) (by first | rfl | decide +kernel)
theorem t_366 : (.code y_R_isProduct b_R_isProduct 1 (some (.boolean)) : Cond) ∈ gw := gw_in (tb_2 (List.mem_of_getElem? (i := 126) rfl)) (by first | rfl | decide +kernel)
theorem t_365 : (.static y_R_isProduct : Cond) ∈ gw := gw_in (tb_2 (List.mem_of_getElem? (i := 125) rfl)) (by first | rfl | decide +kernel)
theorem t_367 : (.constant R_R 70 67108863 : Cond) ∈ gw := gw_in (tb_2 (List.mem_of_getElem? (i := 127) rfl)) (by first | rfl | decide +kernel)
theorem t_473 : (.methodLink R_R 85 y_G_hasTicket : Cond) ∈ gw := gw_in (tb_2 (List.mem_of_getElem? (i := 233) rfl)) (by first | rfl | decide +kernel)
theorem t_201 : (.code y_G_hasTicket b_G_hasTicket 2 (some (.boolean)) : Cond) ∈ gw := gw_in (tb_1 (List.mem_of_getElem? (i := 201) rfl)) (by first | rfl | decide +kernel)
theorem t_199 : (.instanceMethod y_G_hasTicket : Cond) ∈ gw := gw_in (tb_1 (List.mem_of_getElem? (i := 199) rfl)) (by first | rfl | decide +kernel)
theorem t_200 : (.selects R_G y_G_hasTicket y_G_hasTicket : Cond) ∈ gw := gw_in (tb_1 (List.mem_of_getElem? (i := 200) rfl)) (by first | rfl | decide +kernel)
theorem t_230 : (.methodLink R_R 92 y_S_durableCount : Cond) ∈ gw := gw_in (tb_1 (List.mem_of_getElem? (i := 230) rfl)) (by first | rfl | decide +kernel)
theorem t_233 : (.code y_S_durableCount b_S_durableCount 1 (some (.int)) : Cond) ∈ gw := gw_in (tb_1 (List.mem_of_getElem? (i := 233) rfl)) (by first | rfl | decide +kernel)
theorem t_231 : (.instanceMethod y_S_durableCount : Cond) ∈ gw := gw_in (tb_1 (List.mem_of_getElem? (i := 231) rfl)) (by first | rfl | decide +kernel)
theorem t_232 : (.selects R_S y_S_durableCount y_S_durableCount : Cond) ∈ gw := gw_in (tb_1 (List.mem_of_getElem? (i := 232) rfl)) (by first | rfl | decide +kernel)
theorem t_229 : (.methodLink R_R 95 y_G_recordCount : Cond) ∈ gw := gw_in (tb_1 (List.mem_of_getElem? (i := 229) rfl)) (by first | rfl | decide +kernel)
theorem t_567 : (.methodLink R_R 133 Lib.Math.min.name : Cond) ∈ gw := gw_in (tb_3 (List.mem_of_getElem? (i := 87) rfl)) (by first | rfl | decide +kernel)
theorem t_568 : (.static Lib.Math.min.name : Cond) ∈ gw := gw_in (tb_3 (List.mem_of_getElem? (i := 88) rfl)) (by first | rfl | decide +kernel)
theorem t_13 : (.initialized "java/lang/Math" : Cond) ∈ gw := gw_in (tb_1 (List.mem_of_getElem? (i := 13) rfl)) (by first | rfl | decide +kernel)
theorem t_569 : (.code Lib.Math.min.name Lib.Math.min.code 2 (some .int) : Cond) ∈ gw := gw_in (tb_3 (List.mem_of_getElem? (i := 89) rfl)) (by first | rfl | decide +kernel)
theorem t_570 : (.methodLink R_R 139 Lib.Math.max.name : Cond) ∈ gw := gw_in (tb_3 (List.mem_of_getElem? (i := 90) rfl)) (by first | rfl | decide +kernel)
theorem t_571 : (.static Lib.Math.max.name : Cond) ∈ gw := gw_in (tb_3 (List.mem_of_getElem? (i := 91) rfl)) (by first | rfl | decide +kernel)
theorem t_572 : (.code Lib.Math.max.name Lib.Math.max.code 2 (some .int) : Cond) ∈ gw := gw_in (tb_3 (List.mem_of_getElem? (i := 92) rfl)) (by first | rfl | decide +kernel)
theorem t_118 : (.fieldLink R_R 37 R_R "active" "[Z" : Cond) ∈ gw := gw_in (tb_1 (List.mem_of_getElem? (i := 118) rfl)) (by first | rfl | decide +kernel)
theorem t_654 : (.methodLink R_R 158 y_C_tellCut : Cond) ∈ gw := gw_in (tb_3 (List.mem_of_getElem? (i := 174) rfl)) (by first | rfl | decide +kernel)
theorem t_657 : (.code y_C_tellCut b_C_tellCut 2 none : Cond) ∈ gw := gw_in (tb_3 (List.mem_of_getElem? (i := 177) rfl)) (by first | rfl | decide +kernel)
theorem t_655 : (.instanceMethod y_C_tellCut : Cond) ∈ gw := gw_in (tb_3 (List.mem_of_getElem? (i := 175) rfl)) (by first | rfl | decide +kernel)
theorem t_656 : (.selects R_C y_C_tellCut y_C_tellCut : Cond) ∈ gw := gw_in (tb_3 (List.mem_of_getElem? (i := 176) rfl)) (by first | rfl | decide +kernel)
theorem t_665 : (.methodLink R_R 172 y_C_wearAt : Cond) ∈ gw := gw_in (tb_3 (List.mem_of_getElem? (i := 185) rfl)) (by first | rfl | decide +kernel)
theorem t_668 : (.code y_C_wearAt b_C_wearAt 2 (some (.int)) : Cond) ∈ gw := gw_in (tb_3 (List.mem_of_getElem? (i := 188) rfl)) (by first | rfl | decide +kernel)
theorem t_666 : (.instanceMethod y_C_wearAt : Cond) ∈ gw := gw_in (tb_3 (List.mem_of_getElem? (i := 186) rfl)) (by first | rfl | decide +kernel)
theorem t_667 : (.selects R_C y_C_wearAt y_C_wearAt : Cond) ∈ gw := gw_in (tb_3 (List.mem_of_getElem? (i := 187) rfl)) (by first | rfl | decide +kernel)
theorem t_676 : (.methodLink R_R 175 y_C_markFailed : Cond) ∈ gw := gw_in (tb_3 (List.mem_of_getElem? (i := 196) rfl)) (by first | rfl | decide +kernel)
theorem t_679 : (.code y_C_markFailed b_C_markFailed 2 none : Cond) ∈ gw := gw_in (tb_3 (List.mem_of_getElem? (i := 199) rfl)) (by first | rfl | decide +kernel)
theorem t_677 : (.instanceMethod y_C_markFailed : Cond) ∈ gw := gw_in (tb_3 (List.mem_of_getElem? (i := 197) rfl)) (by first | rfl | decide +kernel)
theorem t_678 : (.selects R_C y_C_markFailed y_C_markFailed : Cond) ∈ gw := gw_in (tb_3 (List.mem_of_getElem? (i := 198) rfl)) (by first | rfl | decide +kernel)
theorem t_687 : (.methodLink R_R 178 y_R_isPlace : Cond) ∈ gw := gw_in (tb_3 (List.mem_of_getElem? (i := 207) rfl)) (by first | rfl | decide +kernel)
theorem t_689 : (.code y_R_isPlace b_R_isPlace 2 (some (.boolean)) : Cond) ∈ gw := gw_in (tb_3 (List.mem_of_getElem? (i := 209) rfl)) (by first | rfl | decide +kernel)
theorem t_688 : (.static y_R_isPlace : Cond) ∈ gw := gw_in (tb_3 (List.mem_of_getElem? (i := 208) rfl)) (by first | rfl | decide +kernel)
theorem t_690 : (.methodLink R_R 182 y_C_flip : Cond) ∈ gw := gw_in (tb_3 (List.mem_of_getElem? (i := 210) rfl)) (by first | rfl | decide +kernel)
theorem t_693 : (.code y_C_flip b_C_flip 4 none : Cond) ∈ gw := gw_in (tb_3 (List.mem_of_getElem? (i := 213) rfl)) (by first | rfl | decide +kernel)
theorem t_691 : (.instanceMethod y_C_flip : Cond) ∈ gw := gw_in (tb_3 (List.mem_of_getElem? (i := 211) rfl)) (by first | rfl | decide +kernel)
theorem t_692 : (.selects R_C y_C_flip y_C_flip : Cond) ∈ gw := gw_in (tb_3 (List.mem_of_getElem? (i := 212) rfl)) (by first | rfl | decide +kernel)
theorem t_491 : (.methodLink R_R 105 y_R_requireIndex : Cond) ∈ gw := gw_in (tb_3 (List.mem_of_getElem? (i := 11) rfl)) (by first | rfl | decide +kernel)
theorem t_493 : (.code y_R_requireIndex b_R_requireIndex 1 none : Cond) ∈ gw := gw_in (tb_3 (List.mem_of_getElem? (i := 13) rfl)) (by first | rfl | decide +kernel)
theorem t_492 : (.static y_R_requireIndex : Cond) ∈ gw := gw_in (tb_3 (List.mem_of_getElem? (i := 12) rfl)) (by first | rfl | decide +kernel)
theorem t_701 : (.methodLink R_R 186 y_C_read : Cond) ∈ gw := gw_in (tb_3 (List.mem_of_getElem? (i := 221) rfl)) (by first | rfl | decide +kernel)
theorem t_234 : (.methodLink R_R 189 y_S_livePageCount : Cond) ∈ gw := gw_in (tb_1 (List.mem_of_getElem? (i := 234) rfl)) (by first | rfl | decide +kernel)
theorem t_237 : (.code y_S_livePageCount b_S_livePageCount 3 (some (.int)) : Cond) ∈ gw := gw_in (tb_1 (List.mem_of_getElem? (i := 237) rfl)) (by first | rfl | decide +kernel)
theorem t_235 : (.instanceMethod y_S_livePageCount : Cond) ∈ gw := gw_in (tb_1 (List.mem_of_getElem? (i := 235) rfl)) (by first | rfl | decide +kernel)
theorem t_236 : (.selects R_S y_S_livePageCount y_S_livePageCount : Cond) ∈ gw := gw_in (tb_1 (List.mem_of_getElem? (i := 236) rfl)) (by first | rfl | decide +kernel)
theorem t_242 : (.methodLink R_R 192 y_S_latestSerial : Cond) ∈ gw := gw_in (tb_2 (List.mem_of_getElem? (i := 2) rfl)) (by first | rfl | decide +kernel)
theorem t_245 : (.code y_S_latestSerial b_S_latestSerial 1 (some (.int)) : Cond) ∈ gw := gw_in (tb_2 (List.mem_of_getElem? (i := 5) rfl)) (by first | rfl | decide +kernel)
theorem t_243 : (.instanceMethod y_S_latestSerial : Cond) ∈ gw := gw_in (tb_2 (List.mem_of_getElem? (i := 3) rfl)) (by first | rfl | decide +kernel)
theorem t_244 : (.selects R_S y_S_latestSerial y_S_latestSerial : Cond) ∈ gw := gw_in (tb_2 (List.mem_of_getElem? (i := 4) rfl)) (by first | rfl | decide +kernel)
theorem t_246 : (.methodLink R_R 195 y_S_cursorBlock : Cond) ∈ gw := gw_in (tb_2 (List.mem_of_getElem? (i := 6) rfl)) (by first | rfl | decide +kernel)
theorem t_249 : (.code y_S_cursorBlock b_S_cursorBlock 1 (some (.int)) : Cond) ∈ gw := gw_in (tb_2 (List.mem_of_getElem? (i := 9) rfl)) (by first | rfl | decide +kernel)
theorem t_247 : (.instanceMethod y_S_cursorBlock : Cond) ∈ gw := gw_in (tb_2 (List.mem_of_getElem? (i := 7) rfl)) (by first | rfl | decide +kernel)
theorem t_248 : (.selects R_S y_S_cursorBlock y_S_cursorBlock : Cond) ∈ gw := gw_in (tb_2 (List.mem_of_getElem? (i := 8) rfl)) (by first | rfl | decide +kernel)
theorem t_250 : (.methodLink R_R 198 y_C_usableFreePages : Cond) ∈ gw := gw_in (tb_2 (List.mem_of_getElem? (i := 10) rfl)) (by first | rfl | decide +kernel)
theorem t_253 : (.code y_C_usableFreePages b_C_usableFreePages 3 (some (.int)) : Cond) ∈ gw := gw_in (tb_2 (List.mem_of_getElem? (i := 13) rfl)) (by first | rfl | decide +kernel)
theorem t_251 : (.instanceMethod y_C_usableFreePages : Cond) ∈ gw := gw_in (tb_2 (List.mem_of_getElem? (i := 11) rfl)) (by first | rfl | decide +kernel)
theorem t_252 : (.selects R_C y_C_usableFreePages y_C_usableFreePages : Cond) ∈ gw := gw_in (tb_2 (List.mem_of_getElem? (i := 12) rfl)) (by first | rfl | decide +kernel)
theorem t_267 : (.methodLink R_L 7 y_R_axle : Cond) ∈ gw := gw_in (tb_2 (List.mem_of_getElem? (i := 27) rfl)) (by first | rfl | decide +kernel)
theorem t_270 : (.code y_R_axle b_R_axle 2 (some (.int)) : Cond) ∈ gw := gw_in (tb_2 (List.mem_of_getElem? (i := 30) rfl)) (by first | rfl | decide +kernel)
theorem t_268 : (.instanceMethod y_R_axle : Cond) ∈ gw := gw_in (tb_2 (List.mem_of_getElem? (i := 28) rfl)) (by first | rfl | decide +kernel)
theorem t_269 : (.selects R_R y_R_axle y_R_axle : Cond) ∈ gw := gw_in (tb_2 (List.mem_of_getElem? (i := 29) rfl)) (by first | rfl | decide +kernel)
theorem t_359 : (.methodLink R_L 17 y_R_close : Cond) ∈ gw := gw_in (tb_2 (List.mem_of_getElem? (i := 119) rfl)) (by first | rfl | decide +kernel)
theorem t_362 : (.code y_R_close b_R_close 6 (some (.int)) : Cond) ∈ gw := gw_in (tb_2 (List.mem_of_getElem? (i := 122) rfl)) (by first | rfl | decide +kernel)
theorem t_360 : (.instanceMethod y_R_close : Cond) ∈ gw := gw_in (tb_2 (List.mem_of_getElem? (i := 120) rfl)) (by first | rfl | decide +kernel)
theorem t_361 : (.selects R_R y_R_close y_R_close : Cond) ∈ gw := gw_in (tb_2 (List.mem_of_getElem? (i := 121) rfl)) (by first | rfl | decide +kernel)
theorem t_469 : (.methodLink R_L 21 y_R_annul : Cond) ∈ gw := gw_in (tb_2 (List.mem_of_getElem? (i := 229) rfl)) (by first | rfl | decide +kernel)
theorem t_472 : (.code y_R_annul b_R_annul 3 (some (.int)) : Cond) ∈ gw := gw_in (tb_2 (List.mem_of_getElem? (i := 232) rfl)) (by first | rfl | decide +kernel)
theorem t_470 : (.instanceMethod y_R_annul : Cond) ∈ gw := gw_in (tb_2 (List.mem_of_getElem? (i := 230) rfl)) (by first | rfl | decide +kernel)
theorem t_471 : (.selects R_R y_R_annul y_R_annul : Cond) ∈ gw := gw_in (tb_2 (List.mem_of_getElem? (i := 231) rfl)) (by first | rfl | decide +kernel)
theorem t_479 : (.methodLink R_L 25 y_R_sync : Cond) ∈ gw := gw_in (tb_2 (List.mem_of_getElem? (i := 239) rfl)) (by first | rfl | decide +kernel)
theorem t_482 : (.code y_R_sync b_R_sync 2 (some (.int)) : Cond) ∈ gw := gw_in (tb_3 (List.mem_of_getElem? (i := 2) rfl)) (by first | rfl | decide +kernel)
theorem t_480 : (.instanceMethod y_R_sync : Cond) ∈ gw := gw_in (tb_3 (List.mem_of_getElem? (i := 0) rfl)) (by first | rfl | decide +kernel)
theorem t_481 : (.selects R_R y_R_sync y_R_sync : Cond) ∈ gw := gw_in (tb_3 (List.mem_of_getElem? (i := 1) rfl)) (by first | rfl | decide +kernel)
theorem t_550 : (.methodLink R_L 34 y_R_dayTotal : Cond) ∈ gw := gw_in (tb_3 (List.mem_of_getElem? (i := 70) rfl)) (by first | rfl | decide +kernel)
theorem t_553 : (.code y_R_dayTotal b_R_dayTotal 7 (some (.long)) : Cond) ∈ gw := gw_in (tb_3 (List.mem_of_getElem? (i := 73) rfl)) (by first | rfl | decide +kernel)
theorem t_551 : (.instanceMethod y_R_dayTotal : Cond) ∈ gw := gw_in (tb_3 (List.mem_of_getElem? (i := 71) rfl)) (by first | rfl | decide +kernel)
theorem t_552 : (.selects R_R y_R_dayTotal y_R_dayTotal : Cond) ∈ gw := gw_in (tb_3 (List.mem_of_getElem? (i := 72) rfl)) (by first | rfl | decide +kernel)
theorem t_563 : (.methodLink R_L 38 y_R_rangeTotal : Cond) ∈ gw := gw_in (tb_3 (List.mem_of_getElem? (i := 83) rfl)) (by first | rfl | decide +kernel)
theorem t_566 : (.code y_R_rangeTotal b_R_rangeTotal 7 (some (.long)) : Cond) ∈ gw := gw_in (tb_3 (List.mem_of_getElem? (i := 86) rfl)) (by first | rfl | decide +kernel)
theorem t_564 : (.instanceMethod y_R_rangeTotal : Cond) ∈ gw := gw_in (tb_3 (List.mem_of_getElem? (i := 84) rfl)) (by first | rfl | decide +kernel)
theorem t_565 : (.selects R_R y_R_rangeTotal y_R_rangeTotal : Cond) ∈ gw := gw_in (tb_3 (List.mem_of_getElem? (i := 85) rfl)) (by first | rfl | decide +kernel)
theorem t_576 : (.methodLink R_L 41 y_R_find : Cond) ∈ gw := gw_in (tb_3 (List.mem_of_getElem? (i := 96) rfl)) (by first | rfl | decide +kernel)
theorem t_579 : (.code y_R_find b_R_find 4 (some (.int)) : Cond) ∈ gw := gw_in (tb_3 (List.mem_of_getElem? (i := 99) rfl)) (by first | rfl | decide +kernel)
theorem t_577 : (.instanceMethod y_R_find : Cond) ∈ gw := gw_in (tb_3 (List.mem_of_getElem? (i := 97) rfl)) (by first | rfl | decide +kernel)
theorem t_578 : (.selects R_R y_R_find y_R_find : Cond) ∈ gw := gw_in (tb_3 (List.mem_of_getElem? (i := 98) rfl)) (by first | rfl | decide +kernel)
theorem t_583 : (.methodLink R_L 44 y_R_audit : Cond) ∈ gw := gw_in (tb_3 (List.mem_of_getElem? (i := 103) rfl)) (by first | rfl | decide +kernel)
theorem t_586 : (.code y_R_audit b_R_audit 5 (some (.int)) : Cond) ∈ gw := gw_in (tb_3 (List.mem_of_getElem? (i := 106) rfl)) (by first | rfl | decide +kernel)
theorem t_584 : (.instanceMethod y_R_audit : Cond) ∈ gw := gw_in (tb_3 (List.mem_of_getElem? (i := 104) rfl)) (by first | rfl | decide +kernel)
theorem t_585 : (.selects R_R y_R_audit y_R_audit : Cond) ∈ gw := gw_in (tb_3 (List.mem_of_getElem? (i := 105) rfl)) (by first | rfl | decide +kernel)
theorem t_607 : (.methodLink R_L 47 y_R_exportByte : Cond) ∈ gw := gw_in (tb_3 (List.mem_of_getElem? (i := 127) rfl)) (by first | rfl | decide +kernel)
theorem t_610 : (.code y_R_exportByte b_R_exportByte 7 (some (.int)) : Cond) ∈ gw := gw_in (tb_3 (List.mem_of_getElem? (i := 130) rfl)) (by first | rfl | decide +kernel)
theorem t_608 : (.instanceMethod y_R_exportByte : Cond) ∈ gw := gw_in (tb_3 (List.mem_of_getElem? (i := 128) rfl)) (by first | rfl | decide +kernel)
theorem t_609 : (.selects R_R y_R_exportByte y_R_exportByte : Cond) ∈ gw := gw_in (tb_3 (List.mem_of_getElem? (i := 129) rfl)) (by first | rfl | decide +kernel)
theorem t_661 : (.methodLink R_L 59 y_R_wearOf : Cond) ∈ gw := gw_in (tb_3 (List.mem_of_getElem? (i := 181) rfl)) (by first | rfl | decide +kernel)
theorem t_664 : (.code y_R_wearOf b_R_wearOf 2 (some (.int)) : Cond) ∈ gw := gw_in (tb_3 (List.mem_of_getElem? (i := 184) rfl)) (by first | rfl | decide +kernel)
theorem t_662 : (.instanceMethod y_R_wearOf : Cond) ∈ gw := gw_in (tb_3 (List.mem_of_getElem? (i := 182) rfl)) (by first | rfl | decide +kernel)
theorem t_663 : (.selects R_R y_R_wearOf y_R_wearOf : Cond) ∈ gw := gw_in (tb_3 (List.mem_of_getElem? (i := 183) rfl)) (by first | rfl | decide +kernel)
theorem t_697 : (.methodLink R_L 69 y_R_word : Cond) ∈ gw := gw_in (tb_3 (List.mem_of_getElem? (i := 217) rfl)) (by first | rfl | decide +kernel)
theorem t_700 : (.code y_R_word b_R_word 3 (some (.int)) : Cond) ∈ gw := gw_in (tb_3 (List.mem_of_getElem? (i := 220) rfl)) (by first | rfl | decide +kernel)
theorem t_698 : (.instanceMethod y_R_word : Cond) ∈ gw := gw_in (tb_3 (List.mem_of_getElem? (i := 218) rfl)) (by first | rfl | decide +kernel)
theorem t_699 : (.selects R_R y_R_word y_R_word : Cond) ∈ gw := gw_in (tb_3 (List.mem_of_getElem? (i := 219) rfl)) (by first | rfl | decide +kernel)
theorem t_643 : (.methodLink R_L 51 y_R_setProduct : Cond) ∈ gw := gw_in (tb_3 (List.mem_of_getElem? (i := 163) rfl)) (by first | rfl | decide +kernel)
theorem t_646 : (.code y_R_setProduct b_R_setProduct 3 none : Cond) ∈ gw := gw_in (tb_3 (List.mem_of_getElem? (i := 166) rfl)) (by first | rfl | decide +kernel)
theorem t_644 : (.instanceMethod y_R_setProduct : Cond) ∈ gw := gw_in (tb_3 (List.mem_of_getElem? (i := 164) rfl)) (by first | rfl | decide +kernel)
theorem t_645 : (.selects R_R y_R_setProduct y_R_setProduct : Cond) ∈ gw := gw_in (tb_3 (List.mem_of_getElem? (i := 165) rfl)) (by first | rfl | decide +kernel)
theorem t_650 : (.methodLink R_L 55 y_R_cutAfter : Cond) ∈ gw := gw_in (tb_3 (List.mem_of_getElem? (i := 170) rfl)) (by first | rfl | decide +kernel)
theorem t_653 : (.code y_R_cutAfter b_R_cutAfter 2 none : Cond) ∈ gw := gw_in (tb_3 (List.mem_of_getElem? (i := 173) rfl)) (by first | rfl | decide +kernel)
theorem t_651 : (.instanceMethod y_R_cutAfter : Cond) ∈ gw := gw_in (tb_3 (List.mem_of_getElem? (i := 171) rfl)) (by first | rfl | decide +kernel)
theorem t_652 : (.selects R_R y_R_cutAfter y_R_cutAfter : Cond) ∈ gw := gw_in (tb_3 (List.mem_of_getElem? (i := 172) rfl)) (by first | rfl | decide +kernel)
theorem t_672 : (.methodLink R_L 62 y_R_failBlock : Cond) ∈ gw := gw_in (tb_3 (List.mem_of_getElem? (i := 192) rfl)) (by first | rfl | decide +kernel)
theorem t_675 : (.code y_R_failBlock b_R_failBlock 2 none : Cond) ∈ gw := gw_in (tb_3 (List.mem_of_getElem? (i := 195) rfl)) (by first | rfl | decide +kernel)
theorem t_673 : (.instanceMethod y_R_failBlock : Cond) ∈ gw := gw_in (tb_3 (List.mem_of_getElem? (i := 193) rfl)) (by first | rfl | decide +kernel)
theorem t_674 : (.selects R_R y_R_failBlock y_R_failBlock : Cond) ∈ gw := gw_in (tb_3 (List.mem_of_getElem? (i := 194) rfl)) (by first | rfl | decide +kernel)
theorem t_683 : (.methodLink R_L 65 y_R_poke : Cond) ∈ gw := gw_in (tb_3 (List.mem_of_getElem? (i := 203) rfl)) (by first | rfl | decide +kernel)
theorem t_686 : (.code y_R_poke b_R_poke 4 none : Cond) ∈ gw := gw_in (tb_3 (List.mem_of_getElem? (i := 206) rfl)) (by first | rfl | decide +kernel)
theorem t_684 : (.instanceMethod y_R_poke : Cond) ∈ gw := gw_in (tb_3 (List.mem_of_getElem? (i := 204) rfl)) (by first | rfl | decide +kernel)
theorem t_685 : (.selects R_R y_R_poke y_R_poke : Cond) ∈ gw := gw_in (tb_3 (List.mem_of_getElem? (i := 205) rfl)) (by first | rfl | decide +kernel)
theorem t_265 : (.classLink R_L 13 E_A : Cond) ∈ gw := gw_in (tb_2 (List.mem_of_getElem? (i := 25) rfl)) (by first | rfl | decide +kernel)
theorem t_487 : (.methodLink R_L 29 y_R_ticket : Cond) ∈ gw := gw_in (tb_3 (List.mem_of_getElem? (i := 7) rfl)) (by first | rfl | decide +kernel)
theorem t_488 : (.instanceMethod y_R_ticket : Cond) ∈ gw := gw_in (tb_3 (List.mem_of_getElem? (i := 8) rfl)) (by first | rfl | decide +kernel)
theorem t_489 : (.selects R_R y_R_ticket y_R_ticket : Cond) ∈ gw := gw_in (tb_3 (List.mem_of_getElem? (i := 9) rfl)) (by first | rfl | decide +kernel)
theorem t_490 : (.code y_R_ticket b_R_ticket 3 (some (.int)) : Cond) ∈ gw := gw_in (tb_3 (List.mem_of_getElem? (i := 10) rfl)) (by first | rfl | decide +kernel)
theorem t_266 : (.classLink R_L 15 E_S : Cond) ∈ gw := gw_in (tb_2 (List.mem_of_getElem? (i := 26) rfl)) (by first | rfl | decide +kernel)
theorem t_486 : (.classLink R_L 32 E_I : Cond) ∈ gw := gw_in (tb_3 (List.mem_of_getElem? (i := 6) rfl)) (by first | rfl | decide +kernel)
theorem s_5 : (.selects R_S y_S_isLive y_S_isLive : Cond) ∈ gw := gw_in (tb_s (q := (⟨"WeighRecorder$Store", "isLive", "(I)Z"⟩, _)) (List.mem_of_getElem? (i := 5) rfl)) (by first | rfl | decide +kernel)
theorem s_1 : (.selects R_S y_S_findNewestPages y_S_findNewestPages : Cond) ∈ gw := gw_in (tb_s (q := (⟨"WeighRecorder$Store", "findNewestPages", "()I"⟩, _)) (List.mem_of_getElem? (i := 1) rfl)) (by first | rfl | decide +kernel)
theorem s_0 : (.selects R_R y_R_forgetReadings y_R_forgetReadings : Cond) ∈ gw := gw_in (tb_s (q := (⟨"WeighRecorder", "forgetReadings", "()V"⟩, _)) (List.mem_of_getElem? (i := 0) rfl)) (by first | rfl | decide +kernel)
theorem s_21 : (.selects R_M y_M_forget y_M_forget : Cond) ∈ gw := gw_in (tb_s (q := (⟨"WeighRecorderModel", "forget", "()V"⟩, _)) (List.mem_of_getElem? (i := 21) rfl)) (by first | rfl | decide +kernel)
theorem s_28 : (.selects R_M y_M_isFree y_M_isFree : Cond) ∈ gw := gw_in (tb_s (q := (⟨"WeighRecorderModel", "isFree", "(I)Z"⟩, _)) (List.mem_of_getElem? (i := 28) rfl)) (by first | rfl | decide +kernel)
theorem s_47 : (.selects R_M y_M_isRight y_M_isRight : Cond) ∈ gw := gw_in (tb_s (q := (⟨"WeighRecorderModel", "isRight", "(I)Z"⟩, _)) (List.mem_of_getElem? (i := 47) rfl)) (by first | rfl | decide +kernel)
theorem s_22 : (.selects R_M y_M_fails y_M_fails : Cond) ∈ gw := gw_in (tb_s (q := (⟨"WeighRecorderModel", "fails", "(IZ)Z"⟩, _)) (List.mem_of_getElem? (i := 22) rfl)) (by first | rfl | decide +kernel)
theorem s_42 : (.selects R_M y_M_placeOf y_M_placeOf : Cond) ∈ gw := gw_in (tb_s (q := (⟨"WeighRecorderModel", "placeOf", "(I)I"⟩, _)) (List.mem_of_getElem? (i := 42) rfl)) (by first | rfl | decide +kernel)
theorem s_44 : (.selects R_M y_M_durable y_M_durable : Cond) ∈ gw := gw_in (tb_s (q := (⟨"WeighRecorderModel", "durable", "()I"⟩, _)) (List.mem_of_getElem? (i := 44) rfl)) (by first | rfl | decide +kernel)
theorem s_39 : (.selects R_M y_M_tickets y_M_tickets : Cond) ∈ gw := gw_in (tb_s (q := (⟨"WeighRecorderModel", "tickets", "()I"⟩, _)) (List.mem_of_getElem? (i := 39) rfl)) (by first | rfl | decide +kernel)
theorem s_36 : (.selects R_M y_M_off y_M_off : Cond) ∈ gw := gw_in (tb_s (q := (⟨"WeighRecorderModel", "off", "()V"⟩, _)) (List.mem_of_getElem? (i := 36) rfl)) (by first | rfl | decide +kernel)
theorem s_51 : (.selects R_M y_M_latest y_M_latest : Cond) ∈ gw := gw_in (tb_s (q := (⟨"WeighRecorderModel", "latest", "(I)I"⟩, _)) (List.mem_of_getElem? (i := 51) rfl)) (by first | rfl | decide +kernel)
theorem s_52 : (.selects R_M y_M_liveCount y_M_liveCount : Cond) ∈ gw := gw_in (tb_s (q := (⟨"WeighRecorderModel", "liveCount", "()I"⟩, _)) (List.mem_of_getElem? (i := 52) rfl)) (by first | rfl | decide +kernel)
theorem s_53 : (.selects R_M y_M_freePages y_M_freePages : Cond) ∈ gw := gw_in (tb_s (q := (⟨"WeighRecorderModel", "freePages", "()I"⟩, _)) (List.mem_of_getElem? (i := 53) rfl)) (by first | rfl | decide +kernel)
theorem d_C_isPowered_0 : decode b_C_isPowered 0 = .ok (.aload_n 0, 1) := by decide +kernel
theorem d_C_isPowered_1 : decode b_C_isPowered 1 = .ok (.getfield 22, 3) := by decide +kernel
theorem d_C_isPowered_4 : decode b_C_isPowered 4 = .ok (.ireturn, 1) := by decide +kernel
theorem d_C_read_0 : decode b_C_read 0 = .ok (.aload_n 0, 1) := by decide +kernel
theorem d_C_read_1 : decode b_C_read 1 = .ok (.getfield 9, 3) := by decide +kernel
theorem d_C_read_4 : decode b_C_read 4 = .ok (.iload_n 1, 1) := by decide +kernel
theorem d_C_read_5 : decode b_C_read 5 = .ok (.bipush 16, 2) := by decide +kernel
theorem d_C_read_7 : decode b_C_read 7 = .ok (.imul, 1) := by decide +kernel
theorem d_C_read_8 : decode b_C_read 8 = .ok (.iload_n 2, 1) := by decide +kernel
theorem d_C_read_9 : decode b_C_read 9 = .ok (.iadd, 1) := by decide +kernel
theorem d_C_read_10 : decode b_C_read 10 = .ok (.iaload, 1) := by decide +kernel
theorem d_C_read_11 : decode b_C_read 11 = .ok (.ireturn, 1) := by decide +kernel
theorem d_C_wearAt_0 : decode b_C_wearAt 0 = .ok (.aload_n 0, 1) := by decide +kernel
theorem d_C_wearAt_1 : decode b_C_wearAt 1 = .ok (.getfield 15, 3) := by decide +kernel
theorem d_C_wearAt_4 : decode b_C_wearAt 4 = .ok (.iload_n 1, 1) := by decide +kernel
theorem d_C_wearAt_5 : decode b_C_wearAt 5 = .ok (.iaload, 1) := by decide +kernel
theorem d_C_wearAt_6 : decode b_C_wearAt 6 = .ok (.ireturn, 1) := by decide +kernel
theorem d_C_isFree_0 : decode b_C_isFree 0 = .ok (.iload_n 1, 1) := by decide +kernel
theorem d_C_isFree_1 : decode b_C_isFree 1 = .ok (.bipush 16, 2) := by decide +kernel
theorem d_C_isFree_3 : decode b_C_isFree 3 = .ok (.imul, 1) := by decide +kernel
theorem d_C_isFree_4 : decode b_C_isFree 4 = .ok (.istore_n 2, 1) := by decide +kernel
theorem d_C_isFree_5 : decode b_C_isFree 5 = .ok (.iload_n 2, 1) := by decide +kernel
theorem d_C_isFree_6 : decode b_C_isFree 6 = .ok (.istore_n 3, 1) := by decide +kernel
theorem d_C_isFree_7 : decode b_C_isFree 7 = .ok (.iload_n 3, 1) := by decide +kernel
theorem d_C_isFree_8 : decode b_C_isFree 8 = .ok (.iload_n 2, 1) := by decide +kernel
theorem d_C_isFree_9 : decode b_C_isFree 9 = .ok (.bipush 16, 2) := by decide +kernel
theorem d_C_isFree_11 : decode b_C_isFree 11 = .ok (.iadd, 1) := by decide +kernel
theorem d_C_isFree_12 : decode b_C_isFree 12 = .ok (.if_icmp .ge (21), 3) := by decide +kernel
theorem d_C_isFree_15 : decode b_C_isFree 15 = .ok (.aload_n 0, 1) := by decide +kernel
theorem d_C_isFree_16 : decode b_C_isFree 16 = .ok (.getfield 9, 3) := by decide +kernel
theorem d_C_isFree_19 : decode b_C_isFree 19 = .ok (.iload_n 3, 1) := by decide +kernel
theorem d_C_isFree_20 : decode b_C_isFree 20 = .ok (.iaload, 1) := by decide +kernel
theorem d_C_isFree_21 : decode b_C_isFree 21 = .ok (.iconst (-1), 1) := by decide +kernel
theorem d_C_isFree_22 : decode b_C_isFree 22 = .ok (.if_icmp .eq (5), 3) := by decide +kernel
theorem d_C_isFree_25 : decode b_C_isFree 25 = .ok (.iconst 0, 1) := by decide +kernel
theorem d_C_isFree_26 : decode b_C_isFree 26 = .ok (.ireturn, 1) := by decide +kernel
theorem d_C_isFree_27 : decode b_C_isFree 27 = .ok (.iinc 3 1, 3) := by decide +kernel
theorem d_C_isFree_30 : decode b_C_isFree 30 = .ok (.goto (-23), 3) := by decide +kernel
theorem d_C_isFree_33 : decode b_C_isFree 33 = .ok (.iconst 1, 1) := by decide +kernel
theorem d_C_isFree_34 : decode b_C_isFree 34 = .ok (.ireturn, 1) := by decide +kernel
theorem d_C_isRight_0 : decode b_C_isRight 0 = .ok (.aload_n 0, 1) := by decide +kernel
theorem d_C_isRight_1 : decode b_C_isRight 1 = .ok (.iload_n 1, 1) := by decide +kernel
theorem d_C_isRight_2 : decode b_C_isRight 2 = .ok (.iconst 0, 1) := by decide +kernel
theorem d_C_isRight_3 : decode b_C_isRight 3 = .ok (.invokevirtual 34, 3) := by decide +kernel
theorem d_C_isRight_6 : decode b_C_isRight 6 = .ok (.istore_n 2, 1) := by decide +kernel
theorem d_C_isRight_7 : decode b_C_isRight 7 = .ok (.iload_n 2, 1) := by decide +kernel
theorem d_C_isRight_8 : decode b_C_isRight 8 = .ok (.ifCond .le (54), 3) := by decide +kernel
theorem d_C_isRight_11 : decode b_C_isRight 11 = .ok (.iload_n 2, 1) := by decide +kernel
theorem d_C_isRight_12 : decode b_C_isRight 12 = .ok (.bipush 64, 2) := by decide +kernel
theorem d_C_isRight_14 : decode b_C_isRight 14 = .ok (.if_icmp .ge (48), 3) := by decide +kernel
theorem d_C_isRight_17 : decode b_C_isRight 17 = .ok (.iload_n 2, 1) := by decide +kernel
theorem d_C_isRight_18 : decode b_C_isRight 18 = .ok (.iconst 4, 1) := by decide +kernel
theorem d_C_isRight_19 : decode b_C_isRight 19 = .ok (.irem, 1) := by decide +kernel
theorem d_C_isRight_20 : decode b_C_isRight 20 = .ok (.ifCond .eq (42), 3) := by decide +kernel
theorem d_C_isRight_23 : decode b_C_isRight 23 = .ok (.aload_n 0, 1) := by decide +kernel
theorem d_C_isRight_24 : decode b_C_isRight 24 = .ok (.iload_n 1, 1) := by decide +kernel
theorem d_C_isRight_25 : decode b_C_isRight 25 = .ok (.bipush 15, 2) := by decide +kernel
theorem d_C_isRight_27 : decode b_C_isRight 27 = .ok (.invokevirtual 34, 3) := by decide +kernel
theorem d_C_isRight_30 : decode b_C_isRight 30 = .ok (.ldc 38, 2) := by decide +kernel
theorem d_C_isRight_32 : decode b_C_isRight 32 = .ok (.if_icmp .ne (30), 3) := by decide +kernel
theorem d_C_isRight_35 : decode b_C_isRight 35 = .ok (.aload_n 0, 1) := by decide +kernel
theorem d_C_isRight_36 : decode b_C_isRight 36 = .ok (.iload_n 1, 1) := by decide +kernel
theorem d_C_isRight_37 : decode b_C_isRight 37 = .ok (.bipush 14, 2) := by decide +kernel
theorem d_C_isRight_39 : decode b_C_isRight 39 = .ok (.invokevirtual 34, 3) := by decide +kernel
theorem d_C_isRight_42 : decode b_C_isRight 42 = .ok (.aload_n 0, 1) := by decide +kernel
theorem d_C_isRight_43 : decode b_C_isRight 43 = .ok (.getfield 9, 3) := by decide +kernel
theorem d_C_isRight_46 : decode b_C_isRight 46 = .ok (.iload_n 1, 1) := by decide +kernel
theorem d_C_isRight_47 : decode b_C_isRight 47 = .ok (.bipush 16, 2) := by decide +kernel
theorem d_C_isRight_49 : decode b_C_isRight 49 = .ok (.imul, 1) := by decide +kernel
theorem d_C_isRight_50 : decode b_C_isRight 50 = .ok (.bipush 14, 2) := by decide +kernel
theorem d_C_isRight_52 : decode b_C_isRight 52 = .ok (.invokestatic 39, 3) := by decide +kernel
theorem d_C_isRight_55 : decode b_C_isRight 55 = .ok (.if_icmp .ne (7), 3) := by decide +kernel
theorem d_C_isRight_58 : decode b_C_isRight 58 = .ok (.iconst 1, 1) := by decide +kernel
theorem d_C_isRight_59 : decode b_C_isRight 59 = .ok (.goto (4), 3) := by decide +kernel
theorem d_C_isRight_62 : decode b_C_isRight 62 = .ok (.iconst 0, 1) := by decide +kernel
theorem d_C_isRight_63 : decode b_C_isRight 63 = .ok (.ireturn, 1) := by decide +kernel
theorem d_C_freePagesOf_0 : decode b_C_freePagesOf 0 = .ok (.iconst 0, 1) := by decide +kernel
theorem d_C_freePagesOf_1 : decode b_C_freePagesOf 1 = .ok (.istore_n 2, 1) := by decide +kernel
theorem d_C_freePagesOf_2 : decode b_C_freePagesOf 2 = .ok (.iload_n 1, 1) := by decide +kernel
theorem d_C_freePagesOf_3 : decode b_C_freePagesOf 3 = .ok (.iconst 4, 1) := by decide +kernel
theorem d_C_freePagesOf_4 : decode b_C_freePagesOf 4 = .ok (.imul, 1) := by decide +kernel
theorem d_C_freePagesOf_5 : decode b_C_freePagesOf 5 = .ok (.istore_n 3, 1) := by decide +kernel
theorem d_C_freePagesOf_6 : decode b_C_freePagesOf 6 = .ok (.iload_n 3, 1) := by decide +kernel
theorem d_C_freePagesOf_7 : decode b_C_freePagesOf 7 = .ok (.iload_n 1, 1) := by decide +kernel
theorem d_C_freePagesOf_8 : decode b_C_freePagesOf 8 = .ok (.iconst 1, 1) := by decide +kernel
theorem d_C_freePagesOf_9 : decode b_C_freePagesOf 9 = .ok (.iadd, 1) := by decide +kernel
theorem d_C_freePagesOf_10 : decode b_C_freePagesOf 10 = .ok (.iconst 4, 1) := by decide +kernel
theorem d_C_freePagesOf_11 : decode b_C_freePagesOf 11 = .ok (.imul, 1) := by decide +kernel
theorem d_C_freePagesOf_12 : decode b_C_freePagesOf 12 = .ok (.if_icmp .ge (20), 3) := by decide +kernel
theorem d_C_freePagesOf_15 : decode b_C_freePagesOf 15 = .ok (.aload_n 0, 1) := by decide +kernel
theorem d_C_freePagesOf_16 : decode b_C_freePagesOf 16 = .ok (.iload_n 3, 1) := by decide +kernel
theorem d_C_freePagesOf_17 : decode b_C_freePagesOf 17 = .ok (.invokevirtual 43, 3) := by decide +kernel
theorem d_C_freePagesOf_20 : decode b_C_freePagesOf 20 = .ok (.ifCond .eq (6), 3) := by decide +kernel
theorem d_C_freePagesOf_23 : decode b_C_freePagesOf 23 = .ok (.iinc 2 1, 3) := by decide +kernel
theorem d_C_freePagesOf_26 : decode b_C_freePagesOf 26 = .ok (.iinc 3 1, 3) := by decide +kernel
theorem d_C_freePagesOf_29 : decode b_C_freePagesOf 29 = .ok (.goto (-23), 3) := by decide +kernel
theorem d_C_freePagesOf_32 : decode b_C_freePagesOf 32 = .ok (.iload_n 2, 1) := by decide +kernel
theorem d_C_freePagesOf_33 : decode b_C_freePagesOf 33 = .ok (.ireturn, 1) := by decide +kernel
theorem d_C_usableFreePages_0 : decode b_C_usableFreePages 0 = .ok (.iconst 0, 1) := by decide +kernel
theorem d_C_usableFreePages_1 : decode b_C_usableFreePages 1 = .ok (.istore_n 1, 1) := by decide +kernel
theorem d_C_usableFreePages_2 : decode b_C_usableFreePages 2 = .ok (.iconst 0, 1) := by decide +kernel
theorem d_C_usableFreePages_3 : decode b_C_usableFreePages 3 = .ok (.istore_n 2, 1) := by decide +kernel
theorem d_C_usableFreePages_4 : decode b_C_usableFreePages 4 = .ok (.iload_n 2, 1) := by decide +kernel
theorem d_C_usableFreePages_5 : decode b_C_usableFreePages 5 = .ok (.bipush 8, 2) := by decide +kernel
theorem d_C_usableFreePages_7 : decode b_C_usableFreePages 7 = .ok (.if_icmp .ge (26), 3) := by decide +kernel
theorem d_C_usableFreePages_10 : decode b_C_usableFreePages 10 = .ok (.aload_n 0, 1) := by decide +kernel
theorem d_C_usableFreePages_11 : decode b_C_usableFreePages 11 = .ok (.getfield 18, 3) := by decide +kernel
theorem d_C_usableFreePages_14 : decode b_C_usableFreePages 14 = .ok (.iload_n 2, 1) := by decide +kernel
theorem d_C_usableFreePages_15 : decode b_C_usableFreePages 15 = .ok (.baload, 1) := by decide +kernel
theorem d_C_usableFreePages_16 : decode b_C_usableFreePages 16 = .ok (.ifCond .ne (11), 3) := by decide +kernel
theorem d_C_usableFreePages_19 : decode b_C_usableFreePages 19 = .ok (.iload_n 1, 1) := by decide +kernel
theorem d_C_usableFreePages_20 : decode b_C_usableFreePages 20 = .ok (.aload_n 0, 1) := by decide +kernel
theorem d_C_usableFreePages_21 : decode b_C_usableFreePages 21 = .ok (.iload_n 2, 1) := by decide +kernel
theorem d_C_usableFreePages_22 : decode b_C_usableFreePages 22 = .ok (.invokevirtual 47, 3) := by decide +kernel
theorem d_C_usableFreePages_25 : decode b_C_usableFreePages 25 = .ok (.iadd, 1) := by decide +kernel
theorem d_C_usableFreePages_26 : decode b_C_usableFreePages 26 = .ok (.istore_n 1, 1) := by decide +kernel
theorem d_C_usableFreePages_27 : decode b_C_usableFreePages 27 = .ok (.iinc 2 1, 3) := by decide +kernel
theorem d_C_usableFreePages_30 : decode b_C_usableFreePages 30 = .ok (.goto (-26), 3) := by decide +kernel
theorem d_C_usableFreePages_33 : decode b_C_usableFreePages 33 = .ok (.iload_n 1, 1) := by decide +kernel
theorem d_C_usableFreePages_34 : decode b_C_usableFreePages 34 = .ok (.ireturn, 1) := by decide +kernel
theorem d_C_turnOff_0 : decode b_C_turnOff 0 = .ok (.aload_n 0, 1) := by decide +kernel
theorem d_C_turnOff_1 : decode b_C_turnOff 1 = .ok (.iconst 0, 1) := by decide +kernel
theorem d_C_turnOff_2 : decode b_C_turnOff 2 = .ok (.putfield 22, 3) := by decide +kernel
theorem d_C_turnOff_5 : decode b_C_turnOff 5 = .ok (.aload_n 0, 1) := by decide +kernel
theorem d_C_turnOff_6 : decode b_C_turnOff 6 = .ok (.iconst (-1), 1) := by decide +kernel
theorem d_C_turnOff_7 : decode b_C_turnOff 7 = .ok (.putfield 26, 3) := by decide +kernel
theorem d_C_turnOff_10 : decode b_C_turnOff 10 = .ok (.return_, 1) := by decide +kernel
theorem d_C_turnOn_0 : decode b_C_turnOn 0 = .ok (.aload_n 0, 1) := by decide +kernel
theorem d_C_turnOn_1 : decode b_C_turnOn 1 = .ok (.iconst 1, 1) := by decide +kernel
theorem d_C_turnOn_2 : decode b_C_turnOn 2 = .ok (.putfield 22, 3) := by decide +kernel
theorem d_C_turnOn_5 : decode b_C_turnOn 5 = .ok (.return_, 1) := by decide +kernel
theorem d_C_tellCut_0 : decode b_C_tellCut 0 = .ok (.aload_n 0, 1) := by decide +kernel
theorem d_C_tellCut_1 : decode b_C_tellCut 1 = .ok (.iload_n 1, 1) := by decide +kernel
theorem d_C_tellCut_2 : decode b_C_tellCut 2 = .ok (.putfield 26, 3) := by decide +kernel
theorem d_C_tellCut_5 : decode b_C_tellCut 5 = .ok (.return_, 1) := by decide +kernel
theorem d_C_flip_0 : decode b_C_flip 0 = .ok (.aload_n 0, 1) := by decide +kernel
theorem d_C_flip_1 : decode b_C_flip 1 = .ok (.getfield 9, 3) := by decide +kernel
theorem d_C_flip_4 : decode b_C_flip 4 = .ok (.iload_n 1, 1) := by decide +kernel
theorem d_C_flip_5 : decode b_C_flip 5 = .ok (.bipush 16, 2) := by decide +kernel
theorem d_C_flip_7 : decode b_C_flip 7 = .ok (.imul, 1) := by decide +kernel
theorem d_C_flip_8 : decode b_C_flip 8 = .ok (.iload_n 2, 1) := by decide +kernel
theorem d_C_flip_9 : decode b_C_flip 9 = .ok (.iadd, 1) := by decide +kernel
theorem d_C_flip_10 : decode b_C_flip 10 = .ok (.dup2, 1) := by decide +kernel
theorem d_C_flip_11 : decode b_C_flip 11 = .ok (.iaload, 1) := by decide +kernel
theorem d_C_flip_12 : decode b_C_flip 12 = .ok (.iload_n 3, 1) := by decide +kernel
theorem d_C_flip_13 : decode b_C_flip 13 = .ok (.ixor, 1) := by decide +kernel
theorem d_C_flip_14 : decode b_C_flip 14 = .ok (.iastore, 1) := by decide +kernel
theorem d_C_flip_15 : decode b_C_flip 15 = .ok (.return_, 1) := by decide +kernel
theorem d_C_markFailed_0 : decode b_C_markFailed 0 = .ok (.aload_n 0, 1) := by decide +kernel
theorem d_C_markFailed_1 : decode b_C_markFailed 1 = .ok (.getfield 18, 3) := by decide +kernel
theorem d_C_markFailed_4 : decode b_C_markFailed 4 = .ok (.iload_n 1, 1) := by decide +kernel
theorem d_C_markFailed_5 : decode b_C_markFailed 5 = .ok (.iconst 1, 1) := by decide +kernel
theorem d_C_markFailed_6 : decode b_C_markFailed 6 = .ok (.bastore, 1) := by decide +kernel
theorem d_C_markFailed_7 : decode b_C_markFailed 7 = .ok (.return_, 1) := by decide +kernel
theorem d_G_recordCount_0 : decode b_G_recordCount 0 = .ok (.aload_n 0, 1) := by decide +kernel
theorem d_G_recordCount_1 : decode b_G_recordCount 1 = .ok (.getfield 21, 3) := by decide +kernel
theorem d_G_recordCount_4 : decode b_G_recordCount 4 = .ok (.ireturn, 1) := by decide +kernel
theorem d_G_ticketCount_0 : decode b_G_ticketCount 0 = .ok (.aload_n 0, 1) := by decide +kernel
theorem d_G_ticketCount_1 : decode b_G_ticketCount 1 = .ok (.getfield 25, 3) := by decide +kernel
theorem d_G_ticketCount_4 : decode b_G_ticketCount 4 = .ok (.ireturn, 1) := by decide +kernel
theorem d_G_hasTicket_0 : decode b_G_hasTicket 0 = .ok (.iload_n 1, 1) := by decide +kernel
theorem d_G_hasTicket_1 : decode b_G_hasTicket 1 = .ok (.iconst 1, 1) := by decide +kernel
theorem d_G_hasTicket_2 : decode b_G_hasTicket 2 = .ok (.if_icmp .lt (15), 3) := by decide +kernel
theorem d_G_hasTicket_5 : decode b_G_hasTicket 5 = .ok (.iload_n 1, 1) := by decide +kernel
theorem d_G_hasTicket_6 : decode b_G_hasTicket 6 = .ok (.aload_n 0, 1) := by decide +kernel
theorem d_G_hasTicket_7 : decode b_G_hasTicket 7 = .ok (.getfield 25, 3) := by decide +kernel
theorem d_G_hasTicket_10 : decode b_G_hasTicket 10 = .ok (.if_icmp .gt (7), 3) := by decide +kernel
theorem d_G_hasTicket_13 : decode b_G_hasTicket 13 = .ok (.iconst 1, 1) := by decide +kernel
theorem d_G_hasTicket_14 : decode b_G_hasTicket 14 = .ok (.goto (4), 3) := by decide +kernel
theorem d_G_hasTicket_17 : decode b_G_hasTicket 17 = .ok (.iconst 0, 1) := by decide +kernel
theorem d_G_hasTicket_18 : decode b_G_hasTicket 18 = .ok (.ireturn, 1) := by decide +kernel
theorem d_G_empty_0 : decode b_G_empty 0 = .ok (.aload_n 0, 1) := by decide +kernel
theorem d_G_empty_1 : decode b_G_empty 1 = .ok (.iconst 0, 1) := by decide +kernel
theorem d_G_empty_2 : decode b_G_empty 2 = .ok (.putfield 21, 3) := by decide +kernel
theorem d_G_empty_5 : decode b_G_empty 5 = .ok (.aload_n 0, 1) := by decide +kernel
theorem d_G_empty_6 : decode b_G_empty 6 = .ok (.iconst 0, 1) := by decide +kernel
theorem d_G_empty_7 : decode b_G_empty 7 = .ok (.putfield 25, 3) := by decide +kernel
theorem d_G_empty_10 : decode b_G_empty 10 = .ok (.return_, 1) := by decide +kernel
theorem d_S_durableCount_0 : decode b_S_durableCount 0 = .ok (.aload_n 0, 1) := by decide +kernel
theorem d_S_durableCount_1 : decode b_S_durableCount 1 = .ok (.getfield 32, 3) := by decide +kernel
theorem d_S_durableCount_4 : decode b_S_durableCount 4 = .ok (.ireturn, 1) := by decide +kernel
theorem d_S_latestSerial_0 : decode b_S_latestSerial 0 = .ok (.aload_n 0, 1) := by decide +kernel
theorem d_S_latestSerial_1 : decode b_S_latestSerial 1 = .ok (.getfield 29, 3) := by decide +kernel
theorem d_S_latestSerial_4 : decode b_S_latestSerial 4 = .ok (.ireturn, 1) := by decide +kernel
theorem d_S_cursorBlock_0 : decode b_S_cursorBlock 0 = .ok (.aload_n 0, 1) := by decide +kernel
theorem d_S_cursorBlock_1 : decode b_S_cursorBlock 1 = .ok (.getfield 25, 3) := by decide +kernel
theorem d_S_cursorBlock_4 : decode b_S_cursorBlock 4 = .ok (.ireturn, 1) := by decide +kernel
theorem d_S_isLive_0 : decode b_S_isLive 0 = .ok (.iconst 0, 1) := by decide +kernel
theorem d_S_isLive_1 : decode b_S_isLive 1 = .ok (.istore_n 2, 1) := by decide +kernel
theorem d_S_isLive_2 : decode b_S_isLive 2 = .ok (.iload_n 2, 1) := by decide +kernel
theorem d_S_isLive_3 : decode b_S_isLive 3 = .ok (.bipush 16, 2) := by decide +kernel
theorem d_S_isLive_5 : decode b_S_isLive 5 = .ok (.if_icmp .ge (21), 3) := by decide +kernel
theorem d_S_isLive_8 : decode b_S_isLive 8 = .ok (.aload_n 0, 1) := by decide +kernel
theorem d_S_isLive_9 : decode b_S_isLive 9 = .ok (.getfield 18, 3) := by decide +kernel
theorem d_S_isLive_12 : decode b_S_isLive 12 = .ok (.iload_n 2, 1) := by decide +kernel
theorem d_S_isLive_13 : decode b_S_isLive 13 = .ok (.iaload, 1) := by decide +kernel
theorem d_S_isLive_14 : decode b_S_isLive 14 = .ok (.iload_n 1, 1) := by decide +kernel
theorem d_S_isLive_15 : decode b_S_isLive 15 = .ok (.if_icmp .ne (5), 3) := by decide +kernel
theorem d_S_isLive_18 : decode b_S_isLive 18 = .ok (.iconst 1, 1) := by decide +kernel
theorem d_S_isLive_19 : decode b_S_isLive 19 = .ok (.ireturn, 1) := by decide +kernel
theorem d_S_isLive_20 : decode b_S_isLive 20 = .ok (.iinc 2 1, 3) := by decide +kernel
theorem d_S_isLive_23 : decode b_S_isLive 23 = .ok (.goto (-21), 3) := by decide +kernel
theorem d_S_isLive_26 : decode b_S_isLive 26 = .ok (.iconst 0, 1) := by decide +kernel
theorem d_S_isLive_27 : decode b_S_isLive 27 = .ok (.ireturn, 1) := by decide +kernel
theorem d_S_livePageCount_0 : decode b_S_livePageCount 0 = .ok (.iconst 0, 1) := by decide +kernel
theorem d_S_livePageCount_1 : decode b_S_livePageCount 1 = .ok (.istore_n 1, 1) := by decide +kernel
theorem d_S_livePageCount_2 : decode b_S_livePageCount 2 = .ok (.iconst 0, 1) := by decide +kernel
theorem d_S_livePageCount_3 : decode b_S_livePageCount 3 = .ok (.istore_n 2, 1) := by decide +kernel
theorem d_S_livePageCount_4 : decode b_S_livePageCount 4 = .ok (.iload_n 2, 1) := by decide +kernel
theorem d_S_livePageCount_5 : decode b_S_livePageCount 5 = .ok (.bipush 32, 2) := by decide +kernel
theorem d_S_livePageCount_7 : decode b_S_livePageCount 7 = .ok (.if_icmp .ge (20), 3) := by decide +kernel
theorem d_S_livePageCount_10 : decode b_S_livePageCount 10 = .ok (.aload_n 0, 1) := by decide +kernel
theorem d_S_livePageCount_11 : decode b_S_livePageCount 11 = .ok (.iload_n 2, 1) := by decide +kernel
theorem d_S_livePageCount_12 : decode b_S_livePageCount 12 = .ok (.invokevirtual 39, 3) := by decide +kernel
theorem d_S_livePageCount_15 : decode b_S_livePageCount 15 = .ok (.ifCond .eq (6), 3) := by decide +kernel
theorem d_S_livePageCount_18 : decode b_S_livePageCount 18 = .ok (.iinc 1 1, 3) := by decide +kernel
theorem d_S_livePageCount_21 : decode b_S_livePageCount 21 = .ok (.iinc 2 1, 3) := by decide +kernel
theorem d_S_livePageCount_24 : decode b_S_livePageCount 24 = .ok (.goto (-20), 3) := by decide +kernel
theorem d_S_livePageCount_27 : decode b_S_livePageCount 27 = .ok (.iload_n 1, 1) := by decide +kernel
theorem d_S_livePageCount_28 : decode b_S_livePageCount 28 = .ok (.ireturn, 1) := by decide +kernel
theorem d_S_findNewestPages_0 : decode b_S_findNewestPages 0 = .ok (.iconst 0, 1) := by decide +kernel
theorem d_S_findNewestPages_1 : decode b_S_findNewestPages 1 = .ok (.istore_n 1, 1) := by decide +kernel
theorem d_S_findNewestPages_2 : decode b_S_findNewestPages 2 = .ok (.iload_n 1, 1) := by decide +kernel
theorem d_S_findNewestPages_3 : decode b_S_findNewestPages 3 = .ok (.bipush 16, 2) := by decide +kernel
theorem d_S_findNewestPages_5 : decode b_S_findNewestPages 5 = .ok (.if_icmp .ge (16), 3) := by decide +kernel
theorem d_S_findNewestPages_8 : decode b_S_findNewestPages 8 = .ok (.aload_n 0, 1) := by decide +kernel
theorem d_S_findNewestPages_9 : decode b_S_findNewestPages 9 = .ok (.getfield 18, 3) := by decide +kernel
theorem d_S_findNewestPages_12 : decode b_S_findNewestPages 12 = .ok (.iload_n 1, 1) := by decide +kernel
theorem d_S_findNewestPages_13 : decode b_S_findNewestPages 13 = .ok (.iconst (-1), 1) := by decide +kernel
theorem d_S_findNewestPages_14 : decode b_S_findNewestPages 14 = .ok (.iastore, 1) := by decide +kernel
theorem d_S_findNewestPages_15 : decode b_S_findNewestPages 15 = .ok (.iinc 1 1, 3) := by decide +kernel
theorem d_S_findNewestPages_18 : decode b_S_findNewestPages 18 = .ok (.goto (-16), 3) := by decide +kernel
theorem d_S_findNewestPages_21 : decode b_S_findNewestPages 21 = .ok (.iconst (-1), 1) := by decide +kernel
theorem d_S_findNewestPages_22 : decode b_S_findNewestPages 22 = .ok (.istore_n 1, 1) := by decide +kernel
theorem d_S_findNewestPages_23 : decode b_S_findNewestPages 23 = .ok (.iconst 0, 1) := by decide +kernel
theorem d_S_findNewestPages_24 : decode b_S_findNewestPages 24 = .ok (.istore_n 2, 1) := by decide +kernel
theorem d_S_findNewestPages_25 : decode b_S_findNewestPages 25 = .ok (.iload_n 2, 1) := by decide +kernel
theorem d_S_findNewestPages_26 : decode b_S_findNewestPages 26 = .ok (.bipush 32, 2) := by decide +kernel
theorem d_S_findNewestPages_28 : decode b_S_findNewestPages 28 = .ok (.if_icmp .ge (56), 3) := by decide +kernel
theorem d_S_findNewestPages_31 : decode b_S_findNewestPages 31 = .ok (.aload_n 0, 1) := by decide +kernel
theorem d_S_findNewestPages_32 : decode b_S_findNewestPages 32 = .ok (.getfield 12, 3) := by decide +kernel
theorem d_S_findNewestPages_35 : decode b_S_findNewestPages 35 = .ok (.iload_n 2, 1) := by decide +kernel
theorem d_S_findNewestPages_36 : decode b_S_findNewestPages 36 = .ok (.invokevirtual 120, 3) := by decide +kernel
theorem d_S_findNewestPages_39 : decode b_S_findNewestPages 39 = .ok (.ifCond .eq (39), 3) := by decide +kernel
theorem d_S_findNewestPages_42 : decode b_S_findNewestPages 42 = .ok (.aload_n 0, 1) := by decide +kernel
theorem d_S_findNewestPages_43 : decode b_S_findNewestPages 43 = .ok (.getfield 12, 3) := by decide +kernel
theorem d_S_findNewestPages_46 : decode b_S_findNewestPages 46 = .ok (.iload_n 2, 1) := by decide +kernel
theorem d_S_findNewestPages_47 : decode b_S_findNewestPages 47 = .ok (.iconst 0, 1) := by decide +kernel
theorem d_S_findNewestPages_48 : decode b_S_findNewestPages 48 = .ok (.invokevirtual 85, 3) := by decide +kernel
theorem d_S_findNewestPages_51 : decode b_S_findNewestPages 51 = .ok (.iconst 4, 1) := by decide +kernel
theorem d_S_findNewestPages_52 : decode b_S_findNewestPages 52 = .ok (.idiv, 1) := by decide +kernel
theorem d_S_findNewestPages_53 : decode b_S_findNewestPages 53 = .ok (.istore_n 3, 1) := by decide +kernel
theorem d_S_findNewestPages_54 : decode b_S_findNewestPages 54 = .ok (.aload_n 0, 1) := by decide +kernel
theorem d_S_findNewestPages_55 : decode b_S_findNewestPages 55 = .ok (.getfield 18, 3) := by decide +kernel
theorem d_S_findNewestPages_58 : decode b_S_findNewestPages 58 = .ok (.iload_n 3, 1) := by decide +kernel
theorem d_S_findNewestPages_59 : decode b_S_findNewestPages 59 = .ok (.aload_n 0, 1) := by decide +kernel
theorem d_S_findNewestPages_60 : decode b_S_findNewestPages 60 = .ok (.aload_n 0, 1) := by decide +kernel
theorem d_S_findNewestPages_61 : decode b_S_findNewestPages 61 = .ok (.getfield 18, 3) := by decide +kernel
theorem d_S_findNewestPages_64 : decode b_S_findNewestPages 64 = .ok (.iload_n 3, 1) := by decide +kernel
theorem d_S_findNewestPages_65 : decode b_S_findNewestPages 65 = .ok (.iaload, 1) := by decide +kernel
theorem d_S_findNewestPages_66 : decode b_S_findNewestPages 66 = .ok (.iload_n 2, 1) := by decide +kernel
theorem d_S_findNewestPages_67 : decode b_S_findNewestPages 67 = .ok (.invokevirtual 123, 3) := by decide +kernel
theorem d_S_findNewestPages_70 : decode b_S_findNewestPages 70 = .ok (.iastore, 1) := by decide +kernel
theorem d_S_findNewestPages_71 : decode b_S_findNewestPages 71 = .ok (.aload_n 0, 1) := by decide +kernel
theorem d_S_findNewestPages_72 : decode b_S_findNewestPages 72 = .ok (.iload_n 1, 1) := by decide +kernel
theorem d_S_findNewestPages_73 : decode b_S_findNewestPages 73 = .ok (.iload_n 2, 1) := by decide +kernel
theorem d_S_findNewestPages_74 : decode b_S_findNewestPages 74 = .ok (.invokevirtual 123, 3) := by decide +kernel
theorem d_S_findNewestPages_77 : decode b_S_findNewestPages 77 = .ok (.istore_n 1, 1) := by decide +kernel
theorem d_S_findNewestPages_78 : decode b_S_findNewestPages 78 = .ok (.iinc 2 1, 3) := by decide +kernel
theorem d_S_findNewestPages_81 : decode b_S_findNewestPages 81 = .ok (.goto (-56), 3) := by decide +kernel
theorem d_S_findNewestPages_84 : decode b_S_findNewestPages 84 = .ok (.iload_n 1, 1) := by decide +kernel
theorem d_S_findNewestPages_85 : decode b_S_findNewestPages 85 = .ok (.ireturn, 1) := by decide +kernel
theorem d_S_restore_0 : decode b_S_restore 0 = .ok (.aload_n 0, 1) := by decide +kernel
theorem d_S_restore_1 : decode b_S_restore 1 = .ok (.invokevirtual 110, 3) := by decide +kernel
theorem d_S_restore_4 : decode b_S_restore 4 = .ok (.istore_n 2, 1) := by decide +kernel
theorem d_S_restore_5 : decode b_S_restore 5 = .ok (.aload_n 0, 1) := by decide +kernel
theorem d_S_restore_6 : decode b_S_restore 6 = .ok (.iload_n 2, 1) := by decide +kernel
theorem d_S_restore_7 : decode b_S_restore 7 = .ok (.iconst (-1), 1) := by decide +kernel
theorem d_S_restore_8 : decode b_S_restore 8 = .ok (.if_icmp .ne (7), 3) := by decide +kernel
theorem d_S_restore_11 : decode b_S_restore 11 = .ok (.iconst (-1), 1) := by decide +kernel
theorem d_S_restore_12 : decode b_S_restore 12 = .ok (.goto (6), 3) := by decide +kernel
theorem d_S_restore_15 : decode b_S_restore 15 = .ok (.iload_n 2, 1) := by decide +kernel
theorem d_S_restore_16 : decode b_S_restore 16 = .ok (.iconst 4, 1) := by decide +kernel
theorem d_S_restore_17 : decode b_S_restore 17 = .ok (.idiv, 1) := by decide +kernel
theorem d_S_restore_18 : decode b_S_restore 18 = .ok (.putfield 25, 3) := by decide +kernel
theorem d_S_restore_21 : decode b_S_restore 21 = .ok (.aload_n 0, 1) := by decide +kernel
theorem d_S_restore_22 : decode b_S_restore 22 = .ok (.iload_n 2, 1) := by decide +kernel
theorem d_S_restore_23 : decode b_S_restore 23 = .ok (.iconst (-1), 1) := by decide +kernel
theorem d_S_restore_24 : decode b_S_restore 24 = .ok (.if_icmp .ne (7), 3) := by decide +kernel
theorem d_S_restore_27 : decode b_S_restore 27 = .ok (.iconst 0, 1) := by decide +kernel
theorem d_S_restore_28 : decode b_S_restore 28 = .ok (.goto (12), 3) := by decide +kernel
theorem d_S_restore_31 : decode b_S_restore 31 = .ok (.aload_n 0, 1) := by decide +kernel
theorem d_S_restore_32 : decode b_S_restore 32 = .ok (.getfield 12, 3) := by decide +kernel
theorem d_S_restore_35 : decode b_S_restore 35 = .ok (.iload_n 2, 1) := by decide +kernel
theorem d_S_restore_36 : decode b_S_restore 36 = .ok (.iconst 1, 1) := by decide +kernel
theorem d_S_restore_37 : decode b_S_restore 37 = .ok (.invokevirtual 85, 3) := by decide +kernel
theorem d_S_restore_40 : decode b_S_restore 40 = .ok (.putfield 29, 3) := by decide +kernel
theorem d_S_restore_43 : decode b_S_restore 43 = .ok (.aload_n 0, 1) := by decide +kernel
theorem d_S_restore_44 : decode b_S_restore 44 = .ok (.iconst 0, 1) := by decide +kernel
theorem d_S_restore_45 : decode b_S_restore 45 = .ok (.putfield 35, 3) := by decide +kernel
theorem d_S_restore_48 : decode b_S_restore 48 = .ok (.aload_n 1, 1) := by decide +kernel
theorem d_S_restore_49 : decode b_S_restore 49 = .ok (.invokevirtual 113, 3) := by decide +kernel
theorem d_S_restore_52 : decode b_S_restore 52 = .ok (.iconst 1, 1) := by decide +kernel
theorem d_S_restore_53 : decode b_S_restore 53 = .ok (.istore_n 3, 1) := by decide +kernel
theorem d_S_restore_54 : decode b_S_restore 54 = .ok (.iconst 0, 1) := by decide +kernel
theorem d_S_restore_55 : decode b_S_restore 55 = .ok (.istore 4, 2) := by decide +kernel
theorem d_S_restore_57 : decode b_S_restore 57 = .ok (.iload 4, 2) := by decide +kernel
theorem d_S_restore_59 : decode b_S_restore 59 = .ok (.bipush 16, 2) := by decide +kernel
theorem d_S_restore_61 : decode b_S_restore 61 = .ok (.if_icmp .ge (67), 3) := by decide +kernel
theorem d_S_restore_64 : decode b_S_restore 64 = .ok (.iload_n 3, 1) := by decide +kernel
theorem d_S_restore_65 : decode b_S_restore 65 = .ok (.ifCond .eq (18), 3) := by decide +kernel
theorem d_S_restore_68 : decode b_S_restore 68 = .ok (.aload_n 0, 1) := by decide +kernel
theorem d_S_restore_69 : decode b_S_restore 69 = .ok (.getfield 18, 3) := by decide +kernel
theorem d_S_restore_72 : decode b_S_restore 72 = .ok (.iload 4, 2) := by decide +kernel
theorem d_S_restore_74 : decode b_S_restore 74 = .ok (.iaload, 1) := by decide +kernel
theorem d_S_restore_75 : decode b_S_restore 75 = .ok (.iconst (-1), 1) := by decide +kernel
theorem d_S_restore_76 : decode b_S_restore 76 = .ok (.if_icmp .eq (7), 3) := by decide +kernel
theorem d_S_restore_79 : decode b_S_restore 79 = .ok (.iconst 1, 1) := by decide +kernel
theorem d_S_restore_80 : decode b_S_restore 80 = .ok (.goto (4), 3) := by decide +kernel
theorem d_S_restore_83 : decode b_S_restore 83 = .ok (.iconst 0, 1) := by decide +kernel
theorem d_S_restore_84 : decode b_S_restore 84 = .ok (.istore_n 3, 1) := by decide +kernel
theorem d_S_restore_85 : decode b_S_restore 85 = .ok (.iload_n 3, 1) := by decide +kernel
theorem d_S_restore_86 : decode b_S_restore 86 = .ok (.ifCond .eq (28), 3) := by decide +kernel
theorem d_S_restore_89 : decode b_S_restore 89 = .ok (.aload_n 0, 1) := by decide +kernel
theorem d_S_restore_90 : decode b_S_restore 90 = .ok (.aload_n 1, 1) := by decide +kernel
theorem d_S_restore_91 : decode b_S_restore 91 = .ok (.aload_n 0, 1) := by decide +kernel
theorem d_S_restore_92 : decode b_S_restore 92 = .ok (.getfield 18, 3) := by decide +kernel
theorem d_S_restore_95 : decode b_S_restore 95 = .ok (.iload 4, 2) := by decide +kernel
theorem d_S_restore_97 : decode b_S_restore 97 = .ok (.iaload, 1) := by decide +kernel
theorem d_S_restore_98 : decode b_S_restore 98 = .ok (.invokevirtual 116, 3) := by decide +kernel
theorem d_S_restore_101 : decode b_S_restore 101 = .ok (.iconst 3, 1) := by decide +kernel
theorem d_S_restore_102 : decode b_S_restore 102 = .ok (.if_icmp .ne (7), 3) := by decide +kernel
theorem d_S_restore_105 : decode b_S_restore 105 = .ok (.iconst 1, 1) := by decide +kernel
theorem d_S_restore_106 : decode b_S_restore 106 = .ok (.goto (4), 3) := by decide +kernel
theorem d_S_restore_109 : decode b_S_restore 109 = .ok (.iconst 0, 1) := by decide +kernel
theorem d_S_restore_110 : decode b_S_restore 110 = .ok (.istore_n 3, 1) := by decide +kernel
theorem d_S_restore_111 : decode b_S_restore 111 = .ok (.goto (11), 3) := by decide +kernel
theorem d_S_restore_114 : decode b_S_restore 114 = .ok (.aload_n 0, 1) := by decide +kernel
theorem d_S_restore_115 : decode b_S_restore 115 = .ok (.getfield 18, 3) := by decide +kernel
theorem d_S_restore_118 : decode b_S_restore 118 = .ok (.iload 4, 2) := by decide +kernel
theorem d_S_restore_120 : decode b_S_restore 120 = .ok (.iconst (-1), 1) := by decide +kernel
theorem d_S_restore_121 : decode b_S_restore 121 = .ok (.iastore, 1) := by decide +kernel
theorem d_S_restore_122 : decode b_S_restore 122 = .ok (.iinc 4 1, 3) := by decide +kernel
theorem d_S_restore_125 : decode b_S_restore 125 = .ok (.goto (-68), 3) := by decide +kernel
theorem d_S_restore_128 : decode b_S_restore 128 = .ok (.aload_n 0, 1) := by decide +kernel
theorem d_S_restore_129 : decode b_S_restore 129 = .ok (.aload_n 1, 1) := by decide +kernel
theorem d_S_restore_130 : decode b_S_restore 130 = .ok (.invokevirtual 96, 3) := by decide +kernel
theorem d_S_restore_133 : decode b_S_restore 133 = .ok (.putfield 32, 3) := by decide +kernel
theorem d_S_restore_136 : decode b_S_restore 136 = .ok (.return_, 1) := by decide +kernel
theorem d_R_forgetReadings_0 : decode b_R_forgetReadings 0 = .ok (.aload_n 0, 1) := by decide +kernel
theorem d_R_forgetReadings_1 : decode b_R_forgetReadings 1 = .ok (.iconst 0, 1) := by decide +kernel
theorem d_R_forgetReadings_2 : decode b_R_forgetReadings 2 = .ok (.putfield 41, 3) := by decide +kernel
theorem d_R_forgetReadings_5 : decode b_R_forgetReadings 5 = .ok (.aload_n 0, 1) := by decide +kernel
theorem d_R_forgetReadings_6 : decode b_R_forgetReadings 6 = .ok (.iconst 0, 1) := by decide +kernel
theorem d_R_forgetReadings_7 : decode b_R_forgetReadings 7 = .ok (.putfield 45, 3) := by decide +kernel
theorem d_R_forgetReadings_10 : decode b_R_forgetReadings 10 = .ok (.return_, 1) := by decide +kernel
theorem d_R_crash_0 : decode b_R_crash 0 = .ok (.aload_n 0, 1) := by decide +kernel
theorem d_R_crash_1 : decode b_R_crash 1 = .ok (.getfield 20, 3) := by decide +kernel
theorem d_R_crash_4 : decode b_R_crash 4 = .ok (.invokevirtual 162, 3) := by decide +kernel
theorem d_R_crash_7 : decode b_R_crash 7 = .ok (.return_, 1) := by decide +kernel
theorem d_R_mount_0 : decode b_R_mount 0 = .ok (.aload_n 0, 1) := by decide +kernel
theorem d_R_mount_1 : decode b_R_mount 1 = .ok (.getfield 20, 3) := by decide +kernel
theorem d_R_mount_4 : decode b_R_mount 4 = .ok (.invokevirtual 162, 3) := by decide +kernel
theorem d_R_mount_7 : decode b_R_mount 7 = .ok (.aload_n 0, 1) := by decide +kernel
theorem d_R_mount_8 : decode b_R_mount 8 = .ok (.invokevirtual 78, 3) := by decide +kernel
theorem d_R_mount_11 : decode b_R_mount 11 = .ok (.aload_n 0, 1) := by decide +kernel
theorem d_R_mount_12 : decode b_R_mount 12 = .ok (.getfield 12, 3) := by decide +kernel
theorem d_R_mount_15 : decode b_R_mount 15 = .ok (.aload_n 0, 1) := by decide +kernel
theorem d_R_mount_16 : decode b_R_mount 16 = .ok (.getfield 26, 3) := by decide +kernel
theorem d_R_mount_19 : decode b_R_mount 19 = .ok (.invokevirtual 165, 3) := by decide +kernel
theorem d_R_mount_22 : decode b_R_mount 22 = .ok (.aload_n 0, 1) := by decide +kernel
theorem d_R_mount_23 : decode b_R_mount 23 = .ok (.getfield 20, 3) := by decide +kernel
theorem d_R_mount_26 : decode b_R_mount 26 = .ok (.invokevirtual 169, 3) := by decide +kernel
theorem d_R_mount_29 : decode b_R_mount 29 = .ok (.aload_n 0, 1) := by decide +kernel
theorem d_R_mount_30 : decode b_R_mount 30 = .ok (.getfield 26, 3) := by decide +kernel
theorem d_R_mount_33 : decode b_R_mount 33 = .ok (.invokevirtual 81, 3) := by decide +kernel
theorem d_R_mount_36 : decode b_R_mount 36 = .ok (.ireturn, 1) := by decide +kernel
theorem d_M_thrown_0 : decode b_M_thrown 0 = .ok (.aload_n 0, 1) := by decide +kernel
theorem d_M_thrown_1 : decode b_M_thrown 1 = .ok (.getfield 49, 3) := by decide +kernel
theorem d_M_thrown_4 : decode b_M_thrown 4 = .ok (.ireturn, 1) := by decide +kernel
theorem d_M_isIn_0 : decode b_M_isIn 0 = .ok (.iload_n 0, 1) := by decide +kernel
theorem d_M_isIn_1 : decode b_M_isIn 1 = .ok (.iload_n 1, 1) := by decide +kernel
theorem d_M_isIn_2 : decode b_M_isIn 2 = .ok (.if_icmp .lt (12), 3) := by decide +kernel
theorem d_M_isIn_5 : decode b_M_isIn 5 = .ok (.iload_n 0, 1) := by decide +kernel
theorem d_M_isIn_6 : decode b_M_isIn 6 = .ok (.iload_n 2, 1) := by decide +kernel
theorem d_M_isIn_7 : decode b_M_isIn 7 = .ok (.if_icmp .gt (7), 3) := by decide +kernel
theorem d_M_isIn_10 : decode b_M_isIn 10 = .ok (.iconst 1, 1) := by decide +kernel
theorem d_M_isIn_11 : decode b_M_isIn 11 = .ok (.goto (4), 3) := by decide +kernel
theorem d_M_isIn_14 : decode b_M_isIn 14 = .ok (.iconst 0, 1) := by decide +kernel
theorem d_M_isIn_15 : decode b_M_isIn 15 = .ok (.ireturn, 1) := by decide +kernel
theorem d_R_isWithin_0 : decode b_R_isWithin 0 = .ok (.iload_n 0, 1) := by decide +kernel
theorem d_R_isWithin_1 : decode b_R_isWithin 1 = .ok (.iload_n 1, 1) := by decide +kernel
theorem d_R_isWithin_2 : decode b_R_isWithin 2 = .ok (.if_icmp .lt (12), 3) := by decide +kernel
theorem d_R_isWithin_5 : decode b_R_isWithin 5 = .ok (.iload_n 0, 1) := by decide +kernel
theorem d_R_isWithin_6 : decode b_R_isWithin 6 = .ok (.iload_n 2, 1) := by decide +kernel
theorem d_R_isWithin_7 : decode b_R_isWithin 7 = .ok (.if_icmp .gt (7), 3) := by decide +kernel
theorem d_R_isWithin_10 : decode b_R_isWithin 10 = .ok (.iconst 1, 1) := by decide +kernel
theorem d_R_isWithin_11 : decode b_R_isWithin 11 = .ok (.goto (4), 3) := by decide +kernel
theorem d_R_isWithin_14 : decode b_R_isWithin 14 = .ok (.iconst 0, 1) := by decide +kernel
theorem d_R_isWithin_15 : decode b_R_isWithin 15 = .ok (.ireturn, 1) := by decide +kernel
theorem d_M_fails_0 : decode b_M_fails 0 = .ok (.aload_n 0, 1) := by decide +kernel
theorem d_M_fails_1 : decode b_M_fails 1 = .ok (.iload_n 2, 1) := by decide +kernel
theorem d_M_fails_2 : decode b_M_fails 2 = .ok (.ifCond .eq (7), 3) := by decide +kernel
theorem d_M_fails_5 : decode b_M_fails 5 = .ok (.iload_n 1, 1) := by decide +kernel
theorem d_M_fails_6 : decode b_M_fails 6 = .ok (.goto (4), 3) := by decide +kernel
theorem d_M_fails_9 : decode b_M_fails 9 = .ok (.iconst 0, 1) := by decide +kernel
theorem d_M_fails_10 : decode b_M_fails 10 = .ok (.putfield 49, 3) := by decide +kernel
theorem d_M_fails_13 : decode b_M_fails 13 = .ok (.iload_n 2, 1) := by decide +kernel
theorem d_M_fails_14 : decode b_M_fails 14 = .ok (.ireturn, 1) := by decide +kernel
theorem d_M_forget_0 : decode b_M_forget 0 = .ok (.aload_n 0, 1) := by decide +kernel
theorem d_M_forget_1 : decode b_M_forget 1 = .ok (.iconst 0, 1) := by decide +kernel
theorem d_M_forget_2 : decode b_M_forget 2 = .ok (.putfield 52, 3) := by decide +kernel
theorem d_M_forget_5 : decode b_M_forget 5 = .ok (.iconst 0, 1) := by decide +kernel
theorem d_M_forget_6 : decode b_M_forget 6 = .ok (.istore_n 1, 1) := by decide +kernel
theorem d_M_forget_7 : decode b_M_forget 7 = .ok (.iload_n 1, 1) := by decide +kernel
theorem d_M_forget_8 : decode b_M_forget 8 = .ok (.bipush 16, 2) := by decide +kernel
theorem d_M_forget_10 : decode b_M_forget 10 = .ok (.if_icmp .ge (16), 3) := by decide +kernel
theorem d_M_forget_13 : decode b_M_forget 13 = .ok (.aload_n 0, 1) := by decide +kernel
theorem d_M_forget_14 : decode b_M_forget 14 = .ok (.getfield 34, 3) := by decide +kernel
theorem d_M_forget_17 : decode b_M_forget 17 = .ok (.iload_n 1, 1) := by decide +kernel
theorem d_M_forget_18 : decode b_M_forget 18 = .ok (.iconst (-1), 1) := by decide +kernel
theorem d_M_forget_19 : decode b_M_forget 19 = .ok (.iastore, 1) := by decide +kernel
theorem d_M_forget_20 : decode b_M_forget 20 = .ok (.iinc 1 1, 3) := by decide +kernel
theorem d_M_forget_23 : decode b_M_forget 23 = .ok (.goto (-16), 3) := by decide +kernel
theorem d_M_forget_26 : decode b_M_forget 26 = .ok (.aload_n 0, 1) := by decide +kernel
theorem d_M_forget_27 : decode b_M_forget 27 = .ok (.iconst 0, 1) := by decide +kernel
theorem d_M_forget_28 : decode b_M_forget 28 = .ok (.putfield 55, 3) := by decide +kernel
theorem d_M_forget_31 : decode b_M_forget 31 = .ok (.aload_n 0, 1) := by decide +kernel
theorem d_M_forget_32 : decode b_M_forget 32 = .ok (.iconst (-1), 1) := by decide +kernel
theorem d_M_forget_33 : decode b_M_forget 33 = .ok (.putfield 40, 3) := by decide +kernel
theorem d_M_forget_36 : decode b_M_forget 36 = .ok (.aload_n 0, 1) := by decide +kernel
theorem d_M_forget_37 : decode b_M_forget 37 = .ok (.iconst 0, 1) := by decide +kernel
theorem d_M_forget_38 : decode b_M_forget 38 = .ok (.putfield 58, 3) := by decide +kernel
theorem d_M_forget_41 : decode b_M_forget 41 = .ok (.aload_n 0, 1) := by decide +kernel
theorem d_M_forget_42 : decode b_M_forget 42 = .ok (.iconst 0, 1) := by decide +kernel
theorem d_M_forget_43 : decode b_M_forget 43 = .ok (.putfield 61, 3) := by decide +kernel
theorem d_M_forget_46 : decode b_M_forget 46 = .ok (.aload_n 0, 1) := by decide +kernel
theorem d_M_forget_47 : decode b_M_forget 47 = .ok (.iconst 0, 1) := by decide +kernel
theorem d_M_forget_48 : decode b_M_forget 48 = .ok (.putfield 64, 3) := by decide +kernel
theorem d_M_forget_51 : decode b_M_forget 51 = .ok (.aload_n 0, 1) := by decide +kernel
theorem d_M_forget_52 : decode b_M_forget 52 = .ok (.iconst (-1), 1) := by decide +kernel
theorem d_M_forget_53 : decode b_M_forget 53 = .ok (.putfield 27, 3) := by decide +kernel
theorem d_M_forget_56 : decode b_M_forget 56 = .ok (.return_, 1) := by decide +kernel
theorem d_M_off_0 : decode b_M_off 0 = .ok (.aload_n 0, 1) := by decide +kernel
theorem d_M_off_1 : decode b_M_off 1 = .ok (.iconst 0, 1) := by decide +kernel
theorem d_M_off_2 : decode b_M_off 2 = .ok (.putfield 23, 3) := by decide +kernel
theorem d_M_off_5 : decode b_M_off 5 = .ok (.aload_n 0, 1) := by decide +kernel
theorem d_M_off_6 : decode b_M_off 6 = .ok (.invokevirtual 46, 3) := by decide +kernel
theorem d_M_off_9 : decode b_M_off 9 = .ok (.return_, 1) := by decide +kernel
theorem d_M_isFree_0 : decode b_M_isFree 0 = .ok (.iconst 1, 1) := by decide +kernel
theorem d_M_isFree_1 : decode b_M_isFree 1 = .ok (.istore_n 2, 1) := by decide +kernel
theorem d_M_isFree_2 : decode b_M_isFree 2 = .ok (.iconst 0, 1) := by decide +kernel
theorem d_M_isFree_3 : decode b_M_isFree 3 = .ok (.istore_n 3, 1) := by decide +kernel
theorem d_M_isFree_4 : decode b_M_isFree 4 = .ok (.iload_n 3, 1) := by decide +kernel
theorem d_M_isFree_5 : decode b_M_isFree 5 = .ok (.bipush 16, 2) := by decide +kernel
theorem d_M_isFree_7 : decode b_M_isFree 7 = .ok (.if_icmp .ge (34), 3) := by decide +kernel
theorem d_M_isFree_10 : decode b_M_isFree 10 = .ok (.iload_n 2, 1) := by decide +kernel
theorem d_M_isFree_11 : decode b_M_isFree 11 = .ok (.ifCond .eq (22), 3) := by decide +kernel
theorem d_M_isFree_14 : decode b_M_isFree 14 = .ok (.aload_n 0, 1) := by decide +kernel
theorem d_M_isFree_15 : decode b_M_isFree 15 = .ok (.getfield 7, 3) := by decide +kernel
theorem d_M_isFree_18 : decode b_M_isFree 18 = .ok (.bipush 16, 2) := by decide +kernel
theorem d_M_isFree_20 : decode b_M_isFree 20 = .ok (.iload_n 1, 1) := by decide +kernel
theorem d_M_isFree_21 : decode b_M_isFree 21 = .ok (.imul, 1) := by decide +kernel
theorem d_M_isFree_22 : decode b_M_isFree 22 = .ok (.iload_n 3, 1) := by decide +kernel
theorem d_M_isFree_23 : decode b_M_isFree 23 = .ok (.iadd, 1) := by decide +kernel
theorem d_M_isFree_24 : decode b_M_isFree 24 = .ok (.iaload, 1) := by decide +kernel
theorem d_M_isFree_25 : decode b_M_isFree 25 = .ok (.iconst (-1), 1) := by decide +kernel
theorem d_M_isFree_26 : decode b_M_isFree 26 = .ok (.if_icmp .ne (7), 3) := by decide +kernel
theorem d_M_isFree_29 : decode b_M_isFree 29 = .ok (.iconst 1, 1) := by decide +kernel
theorem d_M_isFree_30 : decode b_M_isFree 30 = .ok (.goto (4), 3) := by decide +kernel
theorem d_M_isFree_33 : decode b_M_isFree 33 = .ok (.iconst 0, 1) := by decide +kernel
theorem d_M_isFree_34 : decode b_M_isFree 34 = .ok (.istore_n 2, 1) := by decide +kernel
theorem d_M_isFree_35 : decode b_M_isFree 35 = .ok (.iinc 3 1, 3) := by decide +kernel
theorem d_M_isFree_38 : decode b_M_isFree 38 = .ok (.goto (-34), 3) := by decide +kernel
theorem d_M_isFree_41 : decode b_M_isFree 41 = .ok (.iload_n 2, 1) := by decide +kernel
theorem d_M_isFree_42 : decode b_M_isFree 42 = .ok (.ireturn, 1) := by decide +kernel
theorem d_M_isRight_0 : decode b_M_isRight 0 = .ok (.aload_n 0, 1) := by decide +kernel
theorem d_M_isRight_1 : decode b_M_isRight 1 = .ok (.getfield 7, 3) := by decide +kernel
theorem d_M_isRight_4 : decode b_M_isRight 4 = .ok (.bipush 16, 2) := by decide +kernel
theorem d_M_isRight_6 : decode b_M_isRight 6 = .ok (.iload_n 1, 1) := by decide +kernel
theorem d_M_isRight_7 : decode b_M_isRight 7 = .ok (.imul, 1) := by decide +kernel
theorem d_M_isRight_8 : decode b_M_isRight 8 = .ok (.iaload, 1) := by decide +kernel
theorem d_M_isRight_9 : decode b_M_isRight 9 = .ok (.istore_n 2, 1) := by decide +kernel
theorem d_M_isRight_10 : decode b_M_isRight 10 = .ok (.iload_n 2, 1) := by decide +kernel
theorem d_M_isRight_11 : decode b_M_isRight 11 = .ok (.ifCond .lt (65), 3) := by decide +kernel
theorem d_M_isRight_14 : decode b_M_isRight 14 = .ok (.iload_n 2, 1) := by decide +kernel
theorem d_M_isRight_15 : decode b_M_isRight 15 = .ok (.bipush 64, 2) := by decide +kernel
theorem d_M_isRight_17 : decode b_M_isRight 17 = .ok (.if_icmp .ge (59), 3) := by decide +kernel
theorem d_M_isRight_20 : decode b_M_isRight 20 = .ok (.iload_n 2, 1) := by decide +kernel
theorem d_M_isRight_21 : decode b_M_isRight 21 = .ok (.iconst 4, 1) := by decide +kernel
theorem d_M_isRight_22 : decode b_M_isRight 22 = .ok (.irem, 1) := by decide +kernel
theorem d_M_isRight_23 : decode b_M_isRight 23 = .ok (.ifCond .le (53), 3) := by decide +kernel
theorem d_M_isRight_26 : decode b_M_isRight 26 = .ok (.aload_n 0, 1) := by decide +kernel
theorem d_M_isRight_27 : decode b_M_isRight 27 = .ok (.getfield 7, 3) := by decide +kernel
theorem d_M_isRight_30 : decode b_M_isRight 30 = .ok (.bipush 16, 2) := by decide +kernel
theorem d_M_isRight_32 : decode b_M_isRight 32 = .ok (.iload_n 1, 1) := by decide +kernel
theorem d_M_isRight_33 : decode b_M_isRight 33 = .ok (.imul, 1) := by decide +kernel
theorem d_M_isRight_34 : decode b_M_isRight 34 = .ok (.bipush 15, 2) := by decide +kernel
theorem d_M_isRight_36 : decode b_M_isRight 36 = .ok (.iadd, 1) := by decide +kernel
theorem d_M_isRight_37 : decode b_M_isRight 37 = .ok (.iaload, 1) := by decide +kernel
theorem d_M_isRight_38 : decode b_M_isRight 38 = .ok (.ldc 75, 2) := by decide +kernel
theorem d_M_isRight_40 : decode b_M_isRight 40 = .ok (.if_icmp .ne (36), 3) := by decide +kernel
theorem d_M_isRight_43 : decode b_M_isRight 43 = .ok (.aload_n 0, 1) := by decide +kernel
theorem d_M_isRight_44 : decode b_M_isRight 44 = .ok (.getfield 7, 3) := by decide +kernel
theorem d_M_isRight_47 : decode b_M_isRight 47 = .ok (.bipush 16, 2) := by decide +kernel
theorem d_M_isRight_49 : decode b_M_isRight 49 = .ok (.iload_n 1, 1) := by decide +kernel
theorem d_M_isRight_50 : decode b_M_isRight 50 = .ok (.imul, 1) := by decide +kernel
theorem d_M_isRight_51 : decode b_M_isRight 51 = .ok (.bipush 14, 2) := by decide +kernel
theorem d_M_isRight_53 : decode b_M_isRight 53 = .ok (.iadd, 1) := by decide +kernel
theorem d_M_isRight_54 : decode b_M_isRight 54 = .ok (.iaload, 1) := by decide +kernel
theorem d_M_isRight_55 : decode b_M_isRight 55 = .ok (.aload_n 0, 1) := by decide +kernel
theorem d_M_isRight_56 : decode b_M_isRight 56 = .ok (.aload_n 0, 1) := by decide +kernel
theorem d_M_isRight_57 : decode b_M_isRight 57 = .ok (.getfield 7, 3) := by decide +kernel
theorem d_M_isRight_60 : decode b_M_isRight 60 = .ok (.bipush 16, 2) := by decide +kernel
theorem d_M_isRight_62 : decode b_M_isRight 62 = .ok (.iload_n 1, 1) := by decide +kernel
theorem d_M_isRight_63 : decode b_M_isRight 63 = .ok (.imul, 1) := by decide +kernel
theorem d_M_isRight_64 : decode b_M_isRight 64 = .ok (.bipush 14, 2) := by decide +kernel
theorem d_M_isRight_66 : decode b_M_isRight 66 = .ok (.invokevirtual 76, 3) := by decide +kernel
theorem d_M_isRight_69 : decode b_M_isRight 69 = .ok (.if_icmp .ne (7), 3) := by decide +kernel
theorem d_M_isRight_72 : decode b_M_isRight 72 = .ok (.iconst 1, 1) := by decide +kernel
theorem d_M_isRight_73 : decode b_M_isRight 73 = .ok (.goto (4), 3) := by decide +kernel
theorem d_M_isRight_76 : decode b_M_isRight 76 = .ok (.iconst 0, 1) := by decide +kernel
theorem d_M_isRight_77 : decode b_M_isRight 77 = .ok (.ireturn, 1) := by decide +kernel
theorem d_M_placeOf_0 : decode b_M_placeOf 0 = .ok (.iconst 0, 1) := by decide +kernel
theorem d_M_placeOf_1 : decode b_M_placeOf 1 = .ok (.istore_n 2, 1) := by decide +kernel
theorem d_M_placeOf_2 : decode b_M_placeOf 2 = .ok (.iconst 0, 1) := by decide +kernel
theorem d_M_placeOf_3 : decode b_M_placeOf 3 = .ok (.istore_n 3, 1) := by decide +kernel
theorem d_M_placeOf_4 : decode b_M_placeOf 4 = .ok (.iload_n 3, 1) := by decide +kernel
theorem d_M_placeOf_5 : decode b_M_placeOf 5 = .ok (.aload_n 0, 1) := by decide +kernel
theorem d_M_placeOf_6 : decode b_M_placeOf 6 = .ok (.getfield 52, 3) := by decide +kernel
theorem d_M_placeOf_9 : decode b_M_placeOf 9 = .ok (.if_icmp .ge (30), 3) := by decide +kernel
theorem d_M_placeOf_12 : decode b_M_placeOf 12 = .ok (.aload_n 0, 1) := by decide +kernel
theorem d_M_placeOf_13 : decode b_M_placeOf 13 = .ok (.iload_n 3, 1) := by decide +kernel
theorem d_M_placeOf_14 : decode b_M_placeOf 14 = .ok (.invokevirtual 124, 3) := by decide +kernel
theorem d_M_placeOf_17 : decode b_M_placeOf 17 = .ok (.ifCond .eq (6), 3) := by decide +kernel
theorem d_M_placeOf_20 : decode b_M_placeOf 20 = .ok (.goto (13), 3) := by decide +kernel
theorem d_M_placeOf_23 : decode b_M_placeOf 23 = .ok (.iinc 2 1, 3) := by decide +kernel
theorem d_M_placeOf_26 : decode b_M_placeOf 26 = .ok (.iload_n 2, 1) := by decide +kernel
theorem d_M_placeOf_27 : decode b_M_placeOf 27 = .ok (.iload_n 1, 1) := by decide +kernel
theorem d_M_placeOf_28 : decode b_M_placeOf 28 = .ok (.if_icmp .ne (5), 3) := by decide +kernel
theorem d_M_placeOf_31 : decode b_M_placeOf 31 = .ok (.iload_n 3, 1) := by decide +kernel
theorem d_M_placeOf_32 : decode b_M_placeOf 32 = .ok (.ireturn, 1) := by decide +kernel
theorem d_M_placeOf_33 : decode b_M_placeOf 33 = .ok (.iinc 3 1, 3) := by decide +kernel
theorem d_M_placeOf_36 : decode b_M_placeOf 36 = .ok (.goto (-32), 3) := by decide +kernel
theorem d_M_placeOf_39 : decode b_M_placeOf 39 = .ok (.iconst (-1), 1) := by decide +kernel
theorem d_M_placeOf_40 : decode b_M_placeOf 40 = .ok (.ireturn, 1) := by decide +kernel
theorem d_M_tickets_0 : decode b_M_tickets 0 = .ok (.iconst 0, 1) := by decide +kernel
theorem d_M_tickets_1 : decode b_M_tickets 1 = .ok (.istore_n 1, 1) := by decide +kernel
theorem d_M_tickets_2 : decode b_M_tickets 2 = .ok (.iconst 0, 1) := by decide +kernel
theorem d_M_tickets_3 : decode b_M_tickets 3 = .ok (.istore_n 2, 1) := by decide +kernel
theorem d_M_tickets_4 : decode b_M_tickets 4 = .ok (.iload_n 2, 1) := by decide +kernel
theorem d_M_tickets_5 : decode b_M_tickets 5 = .ok (.aload_n 0, 1) := by decide +kernel
theorem d_M_tickets_6 : decode b_M_tickets 6 = .ok (.getfield 52, 3) := by decide +kernel
theorem d_M_tickets_9 : decode b_M_tickets 9 = .ok (.if_icmp .ge (25), 3) := by decide +kernel
theorem d_M_tickets_12 : decode b_M_tickets 12 = .ok (.iload_n 1, 1) := by decide +kernel
theorem d_M_tickets_13 : decode b_M_tickets 13 = .ok (.aload_n 0, 1) := by decide +kernel
theorem d_M_tickets_14 : decode b_M_tickets 14 = .ok (.iload_n 2, 1) := by decide +kernel
theorem d_M_tickets_15 : decode b_M_tickets 15 = .ok (.invokevirtual 124, 3) := by decide +kernel
theorem d_M_tickets_18 : decode b_M_tickets 18 = .ok (.ifCond .eq (7), 3) := by decide +kernel
theorem d_M_tickets_21 : decode b_M_tickets 21 = .ok (.iconst 0, 1) := by decide +kernel
theorem d_M_tickets_22 : decode b_M_tickets 22 = .ok (.goto (4), 3) := by decide +kernel
theorem d_M_tickets_25 : decode b_M_tickets 25 = .ok (.iconst 1, 1) := by decide +kernel
theorem d_M_tickets_26 : decode b_M_tickets 26 = .ok (.iadd, 1) := by decide +kernel
theorem d_M_tickets_27 : decode b_M_tickets 27 = .ok (.istore_n 1, 1) := by decide +kernel
theorem d_M_tickets_28 : decode b_M_tickets 28 = .ok (.iinc 2 1, 3) := by decide +kernel
theorem d_M_tickets_31 : decode b_M_tickets 31 = .ok (.goto (-27), 3) := by decide +kernel
theorem d_M_tickets_34 : decode b_M_tickets 34 = .ok (.iload_n 1, 1) := by decide +kernel
theorem d_M_tickets_35 : decode b_M_tickets 35 = .ok (.ireturn, 1) := by decide +kernel
theorem d_M_durable_0 : decode b_M_durable 0 = .ok (.iconst 0, 1) := by decide +kernel
theorem d_M_durable_1 : decode b_M_durable 1 = .ok (.istore_n 1, 1) := by decide +kernel
theorem d_M_durable_2 : decode b_M_durable 2 = .ok (.iconst 0, 1) := by decide +kernel
theorem d_M_durable_3 : decode b_M_durable 3 = .ok (.istore_n 2, 1) := by decide +kernel
theorem d_M_durable_4 : decode b_M_durable 4 = .ok (.iload_n 2, 1) := by decide +kernel
theorem d_M_durable_5 : decode b_M_durable 5 = .ok (.bipush 16, 2) := by decide +kernel
theorem d_M_durable_7 : decode b_M_durable 7 = .ok (.if_icmp .ge (31), 3) := by decide +kernel
theorem d_M_durable_10 : decode b_M_durable 10 = .ok (.iload_n 1, 1) := by decide +kernel
theorem d_M_durable_11 : decode b_M_durable 11 = .ok (.aload_n 0, 1) := by decide +kernel
theorem d_M_durable_12 : decode b_M_durable 12 = .ok (.getfield 34, 3) := by decide +kernel
theorem d_M_durable_15 : decode b_M_durable 15 = .ok (.iload_n 2, 1) := by decide +kernel
theorem d_M_durable_16 : decode b_M_durable 16 = .ok (.iaload, 1) := by decide +kernel
theorem d_M_durable_17 : decode b_M_durable 17 = .ok (.ifCond .lt (12), 3) := by decide +kernel
theorem d_M_durable_20 : decode b_M_durable 20 = .ok (.aload_n 0, 1) := by decide +kernel
theorem d_M_durable_21 : decode b_M_durable 21 = .ok (.getfield 37, 3) := by decide +kernel
theorem d_M_durable_24 : decode b_M_durable 24 = .ok (.iload_n 2, 1) := by decide +kernel
theorem d_M_durable_25 : decode b_M_durable 25 = .ok (.iaload, 1) := by decide +kernel
theorem d_M_durable_26 : decode b_M_durable 26 = .ok (.goto (4), 3) := by decide +kernel
theorem d_M_durable_29 : decode b_M_durable 29 = .ok (.iconst 0, 1) := by decide +kernel
theorem d_M_durable_30 : decode b_M_durable 30 = .ok (.iadd, 1) := by decide +kernel
theorem d_M_durable_31 : decode b_M_durable 31 = .ok (.istore_n 1, 1) := by decide +kernel
theorem d_M_durable_32 : decode b_M_durable 32 = .ok (.iinc 2 1, 3) := by decide +kernel
theorem d_M_durable_35 : decode b_M_durable 35 = .ok (.goto (-31), 3) := by decide +kernel
theorem d_M_durable_38 : decode b_M_durable 38 = .ok (.iload_n 1, 1) := by decide +kernel
theorem d_M_durable_39 : decode b_M_durable 39 = .ok (.ireturn, 1) := by decide +kernel
theorem d_M_liveCount_0 : decode b_M_liveCount 0 = .ok (.iconst 0, 1) := by decide +kernel
theorem d_M_liveCount_1 : decode b_M_liveCount 1 = .ok (.istore_n 1, 1) := by decide +kernel
theorem d_M_liveCount_2 : decode b_M_liveCount 2 = .ok (.iconst 0, 1) := by decide +kernel
theorem d_M_liveCount_3 : decode b_M_liveCount 3 = .ok (.istore_n 2, 1) := by decide +kernel
theorem d_M_liveCount_4 : decode b_M_liveCount 4 = .ok (.iload_n 2, 1) := by decide +kernel
theorem d_M_liveCount_5 : decode b_M_liveCount 5 = .ok (.bipush 16, 2) := by decide +kernel
theorem d_M_liveCount_7 : decode b_M_liveCount 7 = .ok (.if_icmp .ge (26), 3) := by decide +kernel
theorem d_M_liveCount_10 : decode b_M_liveCount 10 = .ok (.iload_n 1, 1) := by decide +kernel
theorem d_M_liveCount_11 : decode b_M_liveCount 11 = .ok (.aload_n 0, 1) := by decide +kernel
theorem d_M_liveCount_12 : decode b_M_liveCount 12 = .ok (.getfield 34, 3) := by decide +kernel
theorem d_M_liveCount_15 : decode b_M_liveCount 15 = .ok (.iload_n 2, 1) := by decide +kernel
theorem d_M_liveCount_16 : decode b_M_liveCount 16 = .ok (.iaload, 1) := by decide +kernel
theorem d_M_liveCount_17 : decode b_M_liveCount 17 = .ok (.ifCond .lt (7), 3) := by decide +kernel
theorem d_M_liveCount_20 : decode b_M_liveCount 20 = .ok (.iconst 1, 1) := by decide +kernel
theorem d_M_liveCount_21 : decode b_M_liveCount 21 = .ok (.goto (4), 3) := by decide +kernel
theorem d_M_liveCount_24 : decode b_M_liveCount 24 = .ok (.iconst 0, 1) := by decide +kernel
theorem d_M_liveCount_25 : decode b_M_liveCount 25 = .ok (.iadd, 1) := by decide +kernel
theorem d_M_liveCount_26 : decode b_M_liveCount 26 = .ok (.istore_n 1, 1) := by decide +kernel
theorem d_M_liveCount_27 : decode b_M_liveCount 27 = .ok (.iinc 2 1, 3) := by decide +kernel
theorem d_M_liveCount_30 : decode b_M_liveCount 30 = .ok (.goto (-26), 3) := by decide +kernel
theorem d_M_liveCount_33 : decode b_M_liveCount 33 = .ok (.iload_n 1, 1) := by decide +kernel
theorem d_M_liveCount_34 : decode b_M_liveCount 34 = .ok (.ireturn, 1) := by decide +kernel
theorem d_M_freePages_0 : decode b_M_freePages 0 = .ok (.iconst 0, 1) := by decide +kernel
theorem d_M_freePages_1 : decode b_M_freePages 1 = .ok (.istore_n 1, 1) := by decide +kernel
theorem d_M_freePages_2 : decode b_M_freePages 2 = .ok (.iconst 0, 1) := by decide +kernel
theorem d_M_freePages_3 : decode b_M_freePages 3 = .ok (.istore_n 2, 1) := by decide +kernel
theorem d_M_freePages_4 : decode b_M_freePages 4 = .ok (.iload_n 2, 1) := by decide +kernel
theorem d_M_freePages_5 : decode b_M_freePages 5 = .ok (.bipush 32, 2) := by decide +kernel
theorem d_M_freePages_7 : decode b_M_freePages 7 = .ok (.if_icmp .ge (36), 3) := by decide +kernel
theorem d_M_freePages_10 : decode b_M_freePages 10 = .ok (.iload_n 1, 1) := by decide +kernel
theorem d_M_freePages_11 : decode b_M_freePages 11 = .ok (.aload_n 0, 1) := by decide +kernel
theorem d_M_freePages_12 : decode b_M_freePages 12 = .ok (.iload_n 2, 1) := by decide +kernel
theorem d_M_freePages_13 : decode b_M_freePages 13 = .ok (.invokevirtual 80, 3) := by decide +kernel
theorem d_M_freePages_16 : decode b_M_freePages 16 = .ok (.ifCond .eq (18), 3) := by decide +kernel
theorem d_M_freePages_19 : decode b_M_freePages 19 = .ok (.aload_n 0, 1) := by decide +kernel
theorem d_M_freePages_20 : decode b_M_freePages 20 = .ok (.getfield 16, 3) := by decide +kernel
theorem d_M_freePages_23 : decode b_M_freePages 23 = .ok (.iload_n 2, 1) := by decide +kernel
theorem d_M_freePages_24 : decode b_M_freePages 24 = .ok (.iconst 4, 1) := by decide +kernel
theorem d_M_freePages_25 : decode b_M_freePages 25 = .ok (.idiv, 1) := by decide +kernel
theorem d_M_freePages_26 : decode b_M_freePages 26 = .ok (.baload, 1) := by decide +kernel
theorem d_M_freePages_27 : decode b_M_freePages 27 = .ok (.ifCond .ne (7), 3) := by decide +kernel
theorem d_M_freePages_30 : decode b_M_freePages 30 = .ok (.iconst 1, 1) := by decide +kernel
theorem d_M_freePages_31 : decode b_M_freePages 31 = .ok (.goto (4), 3) := by decide +kernel
theorem d_M_freePages_34 : decode b_M_freePages 34 = .ok (.iconst 0, 1) := by decide +kernel
theorem d_M_freePages_35 : decode b_M_freePages 35 = .ok (.iadd, 1) := by decide +kernel
theorem d_M_freePages_36 : decode b_M_freePages 36 = .ok (.istore_n 1, 1) := by decide +kernel
theorem d_M_freePages_37 : decode b_M_freePages 37 = .ok (.iinc 2 1, 3) := by decide +kernel
theorem d_M_freePages_40 : decode b_M_freePages 40 = .ok (.goto (-36), 3) := by decide +kernel
theorem d_M_freePages_43 : decode b_M_freePages 43 = .ok (.iload_n 1, 1) := by decide +kernel
theorem d_M_freePages_44 : decode b_M_freePages 44 = .ok (.ireturn, 1) := by decide +kernel
theorem d_M_latest_0 : decode b_M_latest 0 = .ok (.iconst (-1), 1) := by decide +kernel
theorem d_M_latest_1 : decode b_M_latest 1 = .ok (.istore_n 2, 1) := by decide +kernel
theorem d_M_latest_2 : decode b_M_latest 2 = .ok (.iconst 0, 1) := by decide +kernel
theorem d_M_latest_3 : decode b_M_latest 3 = .ok (.istore_n 3, 1) := by decide +kernel
theorem d_M_latest_4 : decode b_M_latest 4 = .ok (.iload_n 3, 1) := by decide +kernel
theorem d_M_latest_5 : decode b_M_latest 5 = .ok (.bipush 32, 2) := by decide +kernel
theorem d_M_latest_7 : decode b_M_latest 7 = .ok (.if_icmp .ge (67), 3) := by decide +kernel
theorem d_M_latest_10 : decode b_M_latest 10 = .ok (.aload_n 0, 1) := by decide +kernel
theorem d_M_latest_11 : decode b_M_latest 11 = .ok (.iload_n 3, 1) := by decide +kernel
theorem d_M_latest_12 : decode b_M_latest 12 = .ok (.invokevirtual 163, 3) := by decide +kernel
theorem d_M_latest_15 : decode b_M_latest 15 = .ok (.ifCond .eq (53), 3) := by decide +kernel
theorem d_M_latest_18 : decode b_M_latest 18 = .ok (.iload_n 1, 1) := by decide +kernel
theorem d_M_latest_19 : decode b_M_latest 19 = .ok (.ifCond .lt (18), 3) := by decide +kernel
theorem d_M_latest_22 : decode b_M_latest 22 = .ok (.aload_n 0, 1) := by decide +kernel
theorem d_M_latest_23 : decode b_M_latest 23 = .ok (.getfield 7, 3) := by decide +kernel
theorem d_M_latest_26 : decode b_M_latest 26 = .ok (.bipush 16, 2) := by decide +kernel
theorem d_M_latest_28 : decode b_M_latest 28 = .ok (.iload_n 3, 1) := by decide +kernel
theorem d_M_latest_29 : decode b_M_latest 29 = .ok (.imul, 1) := by decide +kernel
theorem d_M_latest_30 : decode b_M_latest 30 = .ok (.iaload, 1) := by decide +kernel
theorem d_M_latest_31 : decode b_M_latest 31 = .ok (.iconst 4, 1) := by decide +kernel
theorem d_M_latest_32 : decode b_M_latest 32 = .ok (.idiv, 1) := by decide +kernel
theorem d_M_latest_33 : decode b_M_latest 33 = .ok (.iload_n 1, 1) := by decide +kernel
theorem d_M_latest_34 : decode b_M_latest 34 = .ok (.if_icmp .ne (34), 3) := by decide +kernel
theorem d_M_latest_37 : decode b_M_latest 37 = .ok (.iload_n 2, 1) := by decide +kernel
theorem d_M_latest_38 : decode b_M_latest 38 = .ok (.ifCond .lt (28), 3) := by decide +kernel
theorem d_M_latest_41 : decode b_M_latest 41 = .ok (.aload_n 0, 1) := by decide +kernel
theorem d_M_latest_42 : decode b_M_latest 42 = .ok (.getfield 7, 3) := by decide +kernel
theorem d_M_latest_45 : decode b_M_latest 45 = .ok (.bipush 16, 2) := by decide +kernel
theorem d_M_latest_47 : decode b_M_latest 47 = .ok (.iload_n 3, 1) := by decide +kernel
theorem d_M_latest_48 : decode b_M_latest 48 = .ok (.imul, 1) := by decide +kernel
theorem d_M_latest_49 : decode b_M_latest 49 = .ok (.iconst 1, 1) := by decide +kernel
theorem d_M_latest_50 : decode b_M_latest 50 = .ok (.iadd, 1) := by decide +kernel
theorem d_M_latest_51 : decode b_M_latest 51 = .ok (.iaload, 1) := by decide +kernel
theorem d_M_latest_52 : decode b_M_latest 52 = .ok (.aload_n 0, 1) := by decide +kernel
theorem d_M_latest_53 : decode b_M_latest 53 = .ok (.getfield 7, 3) := by decide +kernel
theorem d_M_latest_56 : decode b_M_latest 56 = .ok (.bipush 16, 2) := by decide +kernel
theorem d_M_latest_58 : decode b_M_latest 58 = .ok (.iload_n 2, 1) := by decide +kernel
theorem d_M_latest_59 : decode b_M_latest 59 = .ok (.imul, 1) := by decide +kernel
theorem d_M_latest_60 : decode b_M_latest 60 = .ok (.iconst 1, 1) := by decide +kernel
theorem d_M_latest_61 : decode b_M_latest 61 = .ok (.iadd, 1) := by decide +kernel
theorem d_M_latest_62 : decode b_M_latest 62 = .ok (.iaload, 1) := by decide +kernel
theorem d_M_latest_63 : decode b_M_latest 63 = .ok (.if_icmp .le (5), 3) := by decide +kernel
theorem d_M_latest_66 : decode b_M_latest 66 = .ok (.iload_n 3, 1) := by decide +kernel
theorem d_M_latest_67 : decode b_M_latest 67 = .ok (.istore_n 2, 1) := by decide +kernel
theorem d_M_latest_68 : decode b_M_latest 68 = .ok (.iinc 3 1, 3) := by decide +kernel
theorem d_M_latest_71 : decode b_M_latest 71 = .ok (.goto (-67), 3) := by decide +kernel
theorem d_M_latest_74 : decode b_M_latest 74 = .ok (.iload_n 2, 1) := by decide +kernel
theorem d_M_latest_75 : decode b_M_latest 75 = .ok (.ireturn, 1) := by decide +kernel
theorem d_M_axle_0 : decode b_M_axle 0 = .ok (.aload_n 0, 1) := by decide +kernel
theorem d_M_axle_1 : decode b_M_axle 1 = .ok (.iconst 1, 1) := by decide +kernel
theorem d_M_axle_2 : decode b_M_axle 2 = .ok (.iload_n 1, 1) := by decide +kernel
theorem d_M_axle_3 : decode b_M_axle 3 = .ok (.iconst 1, 1) := by decide +kernel
theorem d_M_axle_4 : decode b_M_axle 4 = .ok (.sipush 1200, 3) := by decide +kernel
theorem d_M_axle_7 : decode b_M_axle 7 = .ok (.invokestatic 130, 3) := by decide +kernel
theorem d_M_axle_10 : decode b_M_axle 10 = .ok (.ifCond .ne (7), 3) := by decide +kernel
theorem d_M_axle_13 : decode b_M_axle 13 = .ok (.iconst 1, 1) := by decide +kernel
theorem d_M_axle_14 : decode b_M_axle 14 = .ok (.goto (4), 3) := by decide +kernel
theorem d_M_axle_17 : decode b_M_axle 17 = .ok (.iconst 0, 1) := by decide +kernel
theorem d_M_axle_18 : decode b_M_axle 18 = .ok (.invokevirtual 137, 3) := by decide +kernel
theorem d_M_axle_21 : decode b_M_axle 21 = .ok (.ifCond .ne (32), 3) := by decide +kernel
theorem d_M_axle_24 : decode b_M_axle 24 = .ok (.aload_n 0, 1) := by decide +kernel
theorem d_M_axle_25 : decode b_M_axle 25 = .ok (.iconst 2, 1) := by decide +kernel
theorem d_M_axle_26 : decode b_M_axle 26 = .ok (.aload_n 0, 1) := by decide +kernel
theorem d_M_axle_27 : decode b_M_axle 27 = .ok (.getfield 23, 3) := by decide +kernel
theorem d_M_axle_30 : decode b_M_axle 30 = .ok (.ifCond .eq (12), 3) := by decide +kernel
theorem d_M_axle_33 : decode b_M_axle 33 = .ok (.aload_n 0, 1) := by decide +kernel
theorem d_M_axle_34 : decode b_M_axle 34 = .ok (.getfield 58, 3) := by decide +kernel
theorem d_M_axle_37 : decode b_M_axle 37 = .ok (.bipush 9, 2) := by decide +kernel
theorem d_M_axle_39 : decode b_M_axle 39 = .ok (.if_icmp .ne (7), 3) := by decide +kernel
theorem d_M_axle_42 : decode b_M_axle 42 = .ok (.iconst 1, 1) := by decide +kernel
theorem d_M_axle_43 : decode b_M_axle 43 = .ok (.goto (4), 3) := by decide +kernel
theorem d_M_axle_46 : decode b_M_axle 46 = .ok (.iconst 0, 1) := by decide +kernel
theorem d_M_axle_47 : decode b_M_axle 47 = .ok (.invokevirtual 137, 3) := by decide +kernel
theorem d_M_axle_50 : decode b_M_axle 50 = .ok (.ifCond .eq (5), 3) := by decide +kernel
theorem d_M_axle_53 : decode b_M_axle 53 = .ok (.iconst 0, 1) := by decide +kernel
theorem d_M_axle_54 : decode b_M_axle 54 = .ok (.ireturn, 1) := by decide +kernel
theorem d_M_axle_55 : decode b_M_axle 55 = .ok (.aload_n 0, 1) := by decide +kernel
theorem d_M_axle_56 : decode b_M_axle 56 = .ok (.dup, 1) := by decide +kernel
theorem d_M_axle_57 : decode b_M_axle 57 = .ok (.getfield 58, 3) := by decide +kernel
theorem d_M_axle_60 : decode b_M_axle 60 = .ok (.iconst 1, 1) := by decide +kernel
theorem d_M_axle_61 : decode b_M_axle 61 = .ok (.iadd, 1) := by decide +kernel
theorem d_M_axle_62 : decode b_M_axle 62 = .ok (.putfield 58, 3) := by decide +kernel
theorem d_M_axle_65 : decode b_M_axle 65 = .ok (.aload_n 0, 1) := by decide +kernel
theorem d_M_axle_66 : decode b_M_axle 66 = .ok (.dup, 1) := by decide +kernel
theorem d_M_axle_67 : decode b_M_axle 67 = .ok (.getfield 61, 3) := by decide +kernel
theorem d_M_axle_70 : decode b_M_axle 70 = .ok (.iload_n 1, 1) := by decide +kernel
theorem d_M_axle_71 : decode b_M_axle 71 = .ok (.iadd, 1) := by decide +kernel
theorem d_M_axle_72 : decode b_M_axle 72 = .ok (.putfield 61, 3) := by decide +kernel
theorem d_M_axle_75 : decode b_M_axle 75 = .ok (.aload_n 0, 1) := by decide +kernel
theorem d_M_axle_76 : decode b_M_axle 76 = .ok (.getfield 58, 3) := by decide +kernel
theorem d_M_axle_79 : decode b_M_axle 79 = .ok (.ireturn, 1) := by decide +kernel
theorem d_M_close_0 : decode b_M_close 0 = .ok (.iload_n 2, 1) := by decide +kernel
theorem d_M_close_1 : decode b_M_close 1 = .ok (.iconst 0, 1) := by decide +kernel
theorem d_M_close_2 : decode b_M_close 2 = .ok (.ldc 141, 2) := by decide +kernel
theorem d_M_close_4 : decode b_M_close 4 = .ok (.invokestatic 130, 3) := by decide +kernel
theorem d_M_close_7 : decode b_M_close 7 = .ok (.ifCond .eq (28), 3) := by decide +kernel
theorem d_M_close_10 : decode b_M_close 10 = .ok (.iload_n 3, 1) := by decide +kernel
theorem d_M_close_11 : decode b_M_close 11 = .ok (.iconst 0, 1) := by decide +kernel
theorem d_M_close_12 : decode b_M_close 12 = .ok (.bipush 39, 2) := by decide +kernel
theorem d_M_close_14 : decode b_M_close 14 = .ok (.invokestatic 130, 3) := by decide +kernel
theorem d_M_close_17 : decode b_M_close 17 = .ok (.ifCond .eq (18), 3) := by decide +kernel
theorem d_M_close_20 : decode b_M_close 20 = .ok (.iload 4, 2) := by decide +kernel
theorem d_M_close_22 : decode b_M_close 22 = .ok (.iconst 0, 1) := by decide +kernel
theorem d_M_close_23 : decode b_M_close 23 = .ok (.ldc 142, 2) := by decide +kernel
theorem d_M_close_25 : decode b_M_close 25 = .ok (.invokestatic 130, 3) := by decide +kernel
theorem d_M_close_28 : decode b_M_close 28 = .ok (.ifCond .eq (7), 3) := by decide +kernel
theorem d_M_close_31 : decode b_M_close 31 = .ok (.iconst 1, 1) := by decide +kernel
theorem d_M_close_32 : decode b_M_close 32 = .ok (.goto (4), 3) := by decide +kernel
theorem d_M_close_35 : decode b_M_close 35 = .ok (.iconst 0, 1) := by decide +kernel
theorem d_M_close_36 : decode b_M_close 36 = .ok (.istore 5, 2) := by decide +kernel
theorem d_M_close_38 : decode b_M_close 38 = .ok (.aload_n 0, 1) := by decide +kernel
theorem d_M_close_39 : decode b_M_close 39 = .ok (.iconst 1, 1) := by decide +kernel
theorem d_M_close_40 : decode b_M_close 40 = .ok (.iload 5, 2) := by decide +kernel
theorem d_M_close_42 : decode b_M_close 42 = .ok (.ifCond .ne (7), 3) := by decide +kernel
theorem d_M_close_45 : decode b_M_close 45 = .ok (.iconst 1, 1) := by decide +kernel
theorem d_M_close_46 : decode b_M_close 46 = .ok (.goto (4), 3) := by decide +kernel
theorem d_M_close_49 : decode b_M_close 49 = .ok (.iconst 0, 1) := by decide +kernel
theorem d_M_close_50 : decode b_M_close 50 = .ok (.invokevirtual 137, 3) := by decide +kernel
theorem d_M_close_53 : decode b_M_close 53 = .ok (.ifCond .ne (23), 3) := by decide +kernel
theorem d_M_close_56 : decode b_M_close 56 = .ok (.aload_n 0, 1) := by decide +kernel
theorem d_M_close_57 : decode b_M_close 57 = .ok (.iconst 2, 1) := by decide +kernel
theorem d_M_close_58 : decode b_M_close 58 = .ok (.aload_n 0, 1) := by decide +kernel
theorem d_M_close_59 : decode b_M_close 59 = .ok (.getfield 23, 3) := by decide +kernel
theorem d_M_close_62 : decode b_M_close 62 = .ok (.ifCond .ne (7), 3) := by decide +kernel
theorem d_M_close_65 : decode b_M_close 65 = .ok (.iconst 1, 1) := by decide +kernel
theorem d_M_close_66 : decode b_M_close 66 = .ok (.goto (4), 3) := by decide +kernel
theorem d_M_close_69 : decode b_M_close 69 = .ok (.iconst 0, 1) := by decide +kernel
theorem d_M_close_70 : decode b_M_close 70 = .ok (.invokevirtual 137, 3) := by decide +kernel
theorem d_M_close_73 : decode b_M_close 73 = .ok (.ifCond .eq (5), 3) := by decide +kernel
theorem d_M_close_76 : decode b_M_close 76 = .ok (.iconst 0, 1) := by decide +kernel
theorem d_M_close_77 : decode b_M_close 77 = .ok (.ireturn, 1) := by decide +kernel
theorem d_M_close_78 : decode b_M_close 78 = .ok (.aload_n 0, 1) := by decide +kernel
theorem d_M_close_79 : decode b_M_close 79 = .ok (.getfield 58, 3) := by decide +kernel
theorem d_M_close_82 : decode b_M_close 82 = .ok (.ifCond .eq (32), 3) := by decide +kernel
theorem d_M_close_85 : decode b_M_close 85 = .ok (.aload_n 0, 1) := by decide +kernel
theorem d_M_close_86 : decode b_M_close 86 = .ok (.getfield 20, 3) := by decide +kernel
theorem d_M_close_89 : decode b_M_close 89 = .ok (.iload_n 3, 1) := by decide +kernel
theorem d_M_close_90 : decode b_M_close 90 = .ok (.baload, 1) := by decide +kernel
theorem d_M_close_91 : decode b_M_close 91 = .ok (.ifCond .eq (23), 3) := by decide +kernel
theorem d_M_close_94 : decode b_M_close 94 = .ok (.iload_n 2, 1) := by decide +kernel
theorem d_M_close_95 : decode b_M_close 95 = .ok (.bipush 20, 2) := by decide +kernel
theorem d_M_close_97 : decode b_M_close 97 = .ok (.aload_n 0, 1) := by decide +kernel
theorem d_M_close_98 : decode b_M_close 98 = .ok (.getfield 61, 3) := by decide +kernel
theorem d_M_close_101 : decode b_M_close 101 = .ok (.imul, 1) := by decide +kernel
theorem d_M_close_102 : decode b_M_close 102 = .ok (.if_icmp .gt (12), 3) := by decide +kernel
theorem d_M_close_105 : decode b_M_close 105 = .ok (.aload_n 0, 1) := by decide +kernel
theorem d_M_close_106 : decode b_M_close 106 = .ok (.getfield 52, 3) := by decide +kernel
theorem d_M_close_109 : decode b_M_close 109 = .ok (.bipush 48, 2) := by decide +kernel
theorem d_M_close_111 : decode b_M_close 111 = .ok (.if_icmp .ne (5), 3) := by decide +kernel
theorem d_M_close_114 : decode b_M_close 114 = .ok (.iconst 0, 1) := by decide +kernel
theorem d_M_close_115 : decode b_M_close 115 = .ok (.ireturn, 1) := by decide +kernel
theorem d_M_close_116 : decode b_M_close 116 = .ok (.aload_n 0, 1) := by decide +kernel
theorem d_M_close_117 : decode b_M_close 117 = .ok (.iload_n 1, 1) := by decide +kernel
theorem d_M_close_118 : decode b_M_close 118 = .ok (.ldc 143, 2) := by decide +kernel
theorem d_M_close_120 : decode b_M_close 120 = .ok (.aload_n 0, 1) := by decide +kernel
theorem d_M_close_121 : decode b_M_close 121 = .ok (.getfield 61, 3) := by decide +kernel
theorem d_M_close_124 : decode b_M_close 124 = .ok (.imul, 1) := by decide +kernel
theorem d_M_close_125 : decode b_M_close 125 = .ok (.iload_n 2, 1) := by decide +kernel
theorem d_M_close_126 : decode b_M_close 126 = .ok (.iadd, 1) := by decide +kernel
theorem d_M_close_127 : decode b_M_close 127 = .ok (.ldc 144, 2) := by decide +kernel
theorem d_M_close_129 : decode b_M_close 129 = .ok (.iload_n 3, 1) := by decide +kernel
theorem d_M_close_130 : decode b_M_close 130 = .ok (.imul, 1) := by decide +kernel
theorem d_M_close_131 : decode b_M_close 131 = .ok (.iload 4, 2) := by decide +kernel
theorem d_M_close_133 : decode b_M_close 133 = .ok (.iadd, 1) := by decide +kernel
theorem d_M_close_134 : decode b_M_close 134 = .ok (.invokevirtual 145, 3) := by decide +kernel
theorem d_M_close_137 : decode b_M_close 137 = .ok (.istore 6, 2) := by decide +kernel
theorem d_M_close_139 : decode b_M_close 139 = .ok (.iload 6, 2) := by decide +kernel
theorem d_M_close_141 : decode b_M_close 141 = .ok (.ifCond .eq (6), 3) := by decide +kernel
theorem d_M_close_144 : decode b_M_close 144 = .ok (.iload 6, 2) := by decide +kernel
theorem d_M_close_146 : decode b_M_close 146 = .ok (.ireturn, 1) := by decide +kernel
theorem d_M_close_147 : decode b_M_close 147 = .ok (.aload_n 0, 1) := by decide +kernel
theorem d_M_close_148 : decode b_M_close 148 = .ok (.iconst 0, 1) := by decide +kernel
theorem d_M_close_149 : decode b_M_close 149 = .ok (.putfield 58, 3) := by decide +kernel
theorem d_M_close_152 : decode b_M_close 152 = .ok (.aload_n 0, 1) := by decide +kernel
theorem d_M_close_153 : decode b_M_close 153 = .ok (.iconst 0, 1) := by decide +kernel
theorem d_M_close_154 : decode b_M_close 154 = .ok (.putfield 61, 3) := by decide +kernel
theorem d_M_close_157 : decode b_M_close 157 = .ok (.aload_n 0, 1) := by decide +kernel
theorem d_M_close_158 : decode b_M_close 158 = .ok (.invokevirtual 149, 3) := by decide +kernel
theorem d_M_close_161 : decode b_M_close 161 = .ok (.ireturn, 1) := by decide +kernel
theorem d_M_annul_0 : decode b_M_annul 0 = .ok (.aload_n 0, 1) := by decide +kernel
theorem d_M_annul_1 : decode b_M_annul 1 = .ok (.iconst 1, 1) := by decide +kernel
theorem d_M_annul_2 : decode b_M_annul 2 = .ok (.iload_n 2, 1) := by decide +kernel
theorem d_M_annul_3 : decode b_M_annul 3 = .ok (.iconst 0, 1) := by decide +kernel
theorem d_M_annul_4 : decode b_M_annul 4 = .ok (.iconst 3, 1) := by decide +kernel
theorem d_M_annul_5 : decode b_M_annul 5 = .ok (.invokestatic 130, 3) := by decide +kernel
theorem d_M_annul_8 : decode b_M_annul 8 = .ok (.ifCond .ne (7), 3) := by decide +kernel
theorem d_M_annul_11 : decode b_M_annul 11 = .ok (.iconst 1, 1) := by decide +kernel
theorem d_M_annul_12 : decode b_M_annul 12 = .ok (.goto (4), 3) := by decide +kernel
theorem d_M_annul_15 : decode b_M_annul 15 = .ok (.iconst 0, 1) := by decide +kernel
theorem d_M_annul_16 : decode b_M_annul 16 = .ok (.invokevirtual 137, 3) := by decide +kernel
theorem d_M_annul_19 : decode b_M_annul 19 = .ok (.ifCond .ne (23), 3) := by decide +kernel
theorem d_M_annul_22 : decode b_M_annul 22 = .ok (.aload_n 0, 1) := by decide +kernel
theorem d_M_annul_23 : decode b_M_annul 23 = .ok (.iconst 2, 1) := by decide +kernel
theorem d_M_annul_24 : decode b_M_annul 24 = .ok (.aload_n 0, 1) := by decide +kernel
theorem d_M_annul_25 : decode b_M_annul 25 = .ok (.getfield 23, 3) := by decide +kernel
theorem d_M_annul_28 : decode b_M_annul 28 = .ok (.ifCond .ne (7), 3) := by decide +kernel
theorem d_M_annul_31 : decode b_M_annul 31 = .ok (.iconst 1, 1) := by decide +kernel
theorem d_M_annul_32 : decode b_M_annul 32 = .ok (.goto (4), 3) := by decide +kernel
theorem d_M_annul_35 : decode b_M_annul 35 = .ok (.iconst 0, 1) := by decide +kernel
theorem d_M_annul_36 : decode b_M_annul 36 = .ok (.invokevirtual 137, 3) := by decide +kernel
theorem d_M_annul_39 : decode b_M_annul 39 = .ok (.ifCond .eq (5), 3) := by decide +kernel
theorem d_M_annul_42 : decode b_M_annul 42 = .ok (.iconst 0, 1) := by decide +kernel
theorem d_M_annul_43 : decode b_M_annul 43 = .ok (.ireturn, 1) := by decide +kernel
theorem d_M_annul_44 : decode b_M_annul 44 = .ok (.iload_n 1, 1) := by decide +kernel
theorem d_M_annul_45 : decode b_M_annul 45 = .ok (.iconst 1, 1) := by decide +kernel
theorem d_M_annul_46 : decode b_M_annul 46 = .ok (.if_icmp .lt (28), 3) := by decide +kernel
theorem d_M_annul_49 : decode b_M_annul 49 = .ok (.aload_n 0, 1) := by decide +kernel
theorem d_M_annul_50 : decode b_M_annul 50 = .ok (.iload_n 1, 1) := by decide +kernel
theorem d_M_annul_51 : decode b_M_annul 51 = .ok (.invokevirtual 127, 3) := by decide +kernel
theorem d_M_annul_54 : decode b_M_annul 54 = .ok (.ifCond .lt (20), 3) := by decide +kernel
theorem d_M_annul_57 : decode b_M_annul 57 = .ok (.aload_n 0, 1) := by decide +kernel
theorem d_M_annul_58 : decode b_M_annul 58 = .ok (.iload_n 1, 1) := by decide +kernel
theorem d_M_annul_59 : decode b_M_annul 59 = .ok (.invokevirtual 152, 3) := by decide +kernel
theorem d_M_annul_62 : decode b_M_annul 62 = .ok (.ifCond .gt (12), 3) := by decide +kernel
theorem d_M_annul_65 : decode b_M_annul 65 = .ok (.aload_n 0, 1) := by decide +kernel
theorem d_M_annul_66 : decode b_M_annul 66 = .ok (.getfield 52, 3) := by decide +kernel
theorem d_M_annul_69 : decode b_M_annul 69 = .ok (.bipush 48, 2) := by decide +kernel
theorem d_M_annul_71 : decode b_M_annul 71 = .ok (.if_icmp .ne (5), 3) := by decide +kernel
theorem d_M_annul_74 : decode b_M_annul 74 = .ok (.iconst 0, 1) := by decide +kernel
theorem d_M_annul_75 : decode b_M_annul 75 = .ok (.ireturn, 1) := by decide +kernel
theorem d_M_annul_76 : decode b_M_annul 76 = .ok (.aload_n 0, 1) := by decide +kernel
theorem d_M_annul_77 : decode b_M_annul 77 = .ok (.iload_n 1, 1) := by decide +kernel
theorem d_M_annul_78 : decode b_M_annul 78 = .ok (.iload_n 2, 1) := by decide +kernel
theorem d_M_annul_79 : decode b_M_annul 79 = .ok (.ldc 155, 2) := by decide +kernel
theorem d_M_annul_81 : decode b_M_annul 81 = .ok (.invokevirtual 145, 3) := by decide +kernel
theorem d_M_annul_84 : decode b_M_annul 84 = .ok (.istore_n 3, 1) := by decide +kernel
theorem d_M_annul_85 : decode b_M_annul 85 = .ok (.iload_n 3, 1) := by decide +kernel
theorem d_M_annul_86 : decode b_M_annul 86 = .ok (.ifCond .ne (7), 3) := by decide +kernel
theorem d_M_annul_89 : decode b_M_annul 89 = .ok (.iconst 1, 1) := by decide +kernel
theorem d_M_annul_90 : decode b_M_annul 90 = .ok (.goto (4), 3) := by decide +kernel
theorem d_M_annul_93 : decode b_M_annul 93 = .ok (.iload_n 3, 1) := by decide +kernel
theorem d_M_annul_94 : decode b_M_annul 94 = .ok (.ireturn, 1) := by decide +kernel
theorem d_M_sync_0 : decode b_M_sync 0 = .ok (.aload_n 0, 1) := by decide +kernel
theorem d_M_sync_1 : decode b_M_sync 1 = .ok (.iconst 1, 1) := by decide +kernel
theorem d_M_sync_2 : decode b_M_sync 2 = .ok (.aload_n 0, 1) := by decide +kernel
theorem d_M_sync_3 : decode b_M_sync 3 = .ok (.getfield 23, 3) := by decide +kernel
theorem d_M_sync_6 : decode b_M_sync 6 = .ok (.ifCond .ne (7), 3) := by decide +kernel
theorem d_M_sync_9 : decode b_M_sync 9 = .ok (.iconst 1, 1) := by decide +kernel
theorem d_M_sync_10 : decode b_M_sync 10 = .ok (.goto (4), 3) := by decide +kernel
theorem d_M_sync_13 : decode b_M_sync 13 = .ok (.iconst 0, 1) := by decide +kernel
theorem d_M_sync_14 : decode b_M_sync 14 = .ok (.invokevirtual 137, 3) := by decide +kernel
theorem d_M_sync_17 : decode b_M_sync 17 = .ok (.ifCond .eq (5), 3) := by decide +kernel
theorem d_M_sync_20 : decode b_M_sync 20 = .ok (.iconst 0, 1) := by decide +kernel
theorem d_M_sync_21 : decode b_M_sync 21 = .ok (.ireturn, 1) := by decide +kernel
theorem d_M_sync_22 : decode b_M_sync 22 = .ok (.aload_n 0, 1) := by decide +kernel
theorem d_M_sync_23 : decode b_M_sync 23 = .ok (.invokevirtual 156, 3) := by decide +kernel
theorem d_M_sync_26 : decode b_M_sync 26 = .ok (.aload_n 0, 1) := by decide +kernel
theorem d_M_sync_27 : decode b_M_sync 27 = .ok (.getfield 52, 3) := by decide +kernel
theorem d_M_sync_30 : decode b_M_sync 30 = .ok (.if_icmp .ne (5), 3) := by decide +kernel
theorem d_M_sync_33 : decode b_M_sync 33 = .ok (.iconst 1, 1) := by decide +kernel
theorem d_M_sync_34 : decode b_M_sync 34 = .ok (.ireturn, 1) := by decide +kernel
theorem d_M_sync_35 : decode b_M_sync 35 = .ok (.aload_n 0, 1) := by decide +kernel
theorem d_M_sync_36 : decode b_M_sync 36 = .ok (.getfield 52, 3) := by decide +kernel
theorem d_M_sync_39 : decode b_M_sync 39 = .ok (.iconst 1, 1) := by decide +kernel
theorem d_M_sync_40 : decode b_M_sync 40 = .ok (.isub, 1) := by decide +kernel
theorem d_M_sync_41 : decode b_M_sync 41 = .ok (.iconst 3, 1) := by decide +kernel
theorem d_M_sync_42 : decode b_M_sync 42 = .ok (.idiv, 1) := by decide +kernel
theorem d_M_sync_43 : decode b_M_sync 43 = .ok (.istore_n 1, 1) := by decide +kernel
theorem d_M_sync_44 : decode b_M_sync 44 = .ok (.aload_n 0, 1) := by decide +kernel
theorem d_M_sync_45 : decode b_M_sync 45 = .ok (.iload_n 1, 1) := by decide +kernel
theorem d_M_sync_46 : decode b_M_sync 46 = .ok (.aload_n 0, 1) := by decide +kernel
theorem d_M_sync_47 : decode b_M_sync 47 = .ok (.getfield 52, 3) := by decide +kernel
theorem d_M_sync_50 : decode b_M_sync 50 = .ok (.invokevirtual 134, 3) := by decide +kernel
theorem d_M_sync_53 : decode b_M_sync 53 = .ok (.istore_n 2, 1) := by decide +kernel
theorem d_M_sync_54 : decode b_M_sync 54 = .ok (.iload_n 2, 1) := by decide +kernel
theorem d_M_sync_55 : decode b_M_sync 55 = .ok (.ifCond .eq (5), 3) := by decide +kernel
theorem d_M_sync_58 : decode b_M_sync 58 = .ok (.iload_n 2, 1) := by decide +kernel
theorem d_M_sync_59 : decode b_M_sync 59 = .ok (.ireturn, 1) := by decide +kernel
theorem d_M_sync_60 : decode b_M_sync 60 = .ok (.aload_n 0, 1) := by decide +kernel
theorem d_M_sync_61 : decode b_M_sync 61 = .ok (.getfield 37, 3) := by decide +kernel
theorem d_M_sync_64 : decode b_M_sync 64 = .ok (.iload_n 1, 1) := by decide +kernel
theorem d_M_sync_65 : decode b_M_sync 65 = .ok (.aload_n 0, 1) := by decide +kernel
theorem d_M_sync_66 : decode b_M_sync 66 = .ok (.getfield 52, 3) := by decide +kernel
theorem d_M_sync_69 : decode b_M_sync 69 = .ok (.iconst 3, 1) := by decide +kernel
theorem d_M_sync_70 : decode b_M_sync 70 = .ok (.iload_n 1, 1) := by decide +kernel
theorem d_M_sync_71 : decode b_M_sync 71 = .ok (.imul, 1) := by decide +kernel
theorem d_M_sync_72 : decode b_M_sync 72 = .ok (.isub, 1) := by decide +kernel
theorem d_M_sync_73 : decode b_M_sync 73 = .ok (.iastore, 1) := by decide +kernel
theorem d_M_sync_74 : decode b_M_sync 74 = .ok (.iconst 1, 1) := by decide +kernel
theorem d_M_sync_75 : decode b_M_sync 75 = .ok (.ireturn, 1) := by decide +kernel
theorem d_M_ticket_0 : decode b_M_ticket 0 = .ok (.aload_n 0, 1) := by decide +kernel
theorem d_M_ticket_1 : decode b_M_ticket 1 = .ok (.iconst 1, 1) := by decide +kernel
theorem d_M_ticket_2 : decode b_M_ticket 2 = .ok (.aload_n 0, 1) := by decide +kernel
theorem d_M_ticket_3 : decode b_M_ticket 3 = .ok (.getfield 23, 3) := by decide +kernel
theorem d_M_ticket_6 : decode b_M_ticket 6 = .ok (.ifCond .ne (7), 3) := by decide +kernel
theorem d_M_ticket_9 : decode b_M_ticket 9 = .ok (.iconst 1, 1) := by decide +kernel
theorem d_M_ticket_10 : decode b_M_ticket 10 = .ok (.goto (4), 3) := by decide +kernel
theorem d_M_ticket_13 : decode b_M_ticket 13 = .ok (.iconst 0, 1) := by decide +kernel
theorem d_M_ticket_14 : decode b_M_ticket 14 = .ok (.invokevirtual 137, 3) := by decide +kernel
theorem d_M_ticket_17 : decode b_M_ticket 17 = .ok (.ifCond .eq (5), 3) := by decide +kernel
theorem d_M_ticket_20 : decode b_M_ticket 20 = .ok (.iconst 0, 1) := by decide +kernel
theorem d_M_ticket_21 : decode b_M_ticket 21 = .ok (.ireturn, 1) := by decide +kernel
theorem d_M_ticket_22 : decode b_M_ticket 22 = .ok (.iload_n 1, 1) := by decide +kernel
theorem d_M_ticket_23 : decode b_M_ticket 23 = .ok (.iconst 1, 1) := by decide +kernel
theorem d_M_ticket_24 : decode b_M_ticket 24 = .ok (.if_icmp .ge (7), 3) := by decide +kernel
theorem d_M_ticket_27 : decode b_M_ticket 27 = .ok (.iconst (-1), 1) := by decide +kernel
theorem d_M_ticket_28 : decode b_M_ticket 28 = .ok (.goto (8), 3) := by decide +kernel
theorem d_M_ticket_31 : decode b_M_ticket 31 = .ok (.aload_n 0, 1) := by decide +kernel
theorem d_M_ticket_32 : decode b_M_ticket 32 = .ok (.iload_n 1, 1) := by decide +kernel
theorem d_M_ticket_33 : decode b_M_ticket 33 = .ok (.invokevirtual 127, 3) := by decide +kernel
theorem d_M_ticket_36 : decode b_M_ticket 36 = .ok (.istore_n 3, 1) := by decide +kernel
theorem d_M_ticket_37 : decode b_M_ticket 37 = .ok (.aload_n 0, 1) := by decide +kernel
theorem d_M_ticket_38 : decode b_M_ticket 38 = .ok (.iconst 2, 1) := by decide +kernel
theorem d_M_ticket_39 : decode b_M_ticket 39 = .ok (.iload_n 3, 1) := by decide +kernel
theorem d_M_ticket_40 : decode b_M_ticket 40 = .ok (.ifCond .lt (13), 3) := by decide +kernel
theorem d_M_ticket_43 : decode b_M_ticket 43 = .ok (.iload_n 2, 1) := by decide +kernel
theorem d_M_ticket_44 : decode b_M_ticket 44 = .ok (.iconst 0, 1) := by decide +kernel
theorem d_M_ticket_45 : decode b_M_ticket 45 = .ok (.bipush 6, 2) := by decide +kernel
theorem d_M_ticket_47 : decode b_M_ticket 47 = .ok (.invokestatic 130, 3) := by decide +kernel
theorem d_M_ticket_50 : decode b_M_ticket 50 = .ok (.ifCond .ne (7), 3) := by decide +kernel
theorem d_M_ticket_53 : decode b_M_ticket 53 = .ok (.iconst 1, 1) := by decide +kernel
theorem d_M_ticket_54 : decode b_M_ticket 54 = .ok (.goto (4), 3) := by decide +kernel
theorem d_M_ticket_57 : decode b_M_ticket 57 = .ok (.iconst 0, 1) := by decide +kernel
theorem d_M_ticket_58 : decode b_M_ticket 58 = .ok (.invokevirtual 137, 3) := by decide +kernel
theorem d_M_ticket_61 : decode b_M_ticket 61 = .ok (.ifCond .eq (5), 3) := by decide +kernel
theorem d_M_ticket_64 : decode b_M_ticket 64 = .ok (.iconst 0, 1) := by decide +kernel
theorem d_M_ticket_65 : decode b_M_ticket 65 = .ok (.ireturn, 1) := by decide +kernel
theorem d_M_ticket_66 : decode b_M_ticket 66 = .ok (.iload_n 2, 1) := by decide +kernel
theorem d_M_ticket_67 : decode b_M_ticket 67 = .ok (.tableswitch 93 0 5 #[37, 44, 57, 67, 77, 87], 37) := by decide +kernel
theorem d_M_ticket_104 : decode b_M_ticket 104 = .ok (.aload_n 0, 1) := by decide +kernel
theorem d_M_ticket_105 : decode b_M_ticket 105 = .ok (.iload_n 3, 1) := by decide +kernel
theorem d_M_ticket_106 : decode b_M_ticket 106 = .ok (.iconst 0, 1) := by decide +kernel
theorem d_M_ticket_107 : decode b_M_ticket 107 = .ok (.invokevirtual 121, 3) := by decide +kernel
theorem d_M_ticket_110 : decode b_M_ticket 110 = .ok (.ireturn, 1) := by decide +kernel
theorem d_M_ticket_111 : decode b_M_ticket 111 = .ok (.bipush 20, 2) := by decide +kernel
theorem d_M_ticket_113 : decode b_M_ticket 113 = .ok (.aload_n 0, 1) := by decide +kernel
theorem d_M_ticket_114 : decode b_M_ticket 114 = .ok (.iload_n 3, 1) := by decide +kernel
theorem d_M_ticket_115 : decode b_M_ticket 115 = .ok (.iconst 1, 1) := by decide +kernel
theorem d_M_ticket_116 : decode b_M_ticket 116 = .ok (.invokevirtual 121, 3) := by decide +kernel
theorem d_M_ticket_119 : decode b_M_ticket 119 = .ok (.bipush 18, 2) := by decide +kernel
theorem d_M_ticket_121 : decode b_M_ticket 121 = .ok (.iushr, 1) := by decide +kernel
theorem d_M_ticket_122 : decode b_M_ticket 122 = .ok (.imul, 1) := by decide +kernel
theorem d_M_ticket_123 : decode b_M_ticket 123 = .ok (.ireturn, 1) := by decide +kernel
theorem d_M_ticket_124 : decode b_M_ticket 124 = .ok (.aload_n 0, 1) := by decide +kernel
theorem d_M_ticket_125 : decode b_M_ticket 125 = .ok (.iload_n 3, 1) := by decide +kernel
theorem d_M_ticket_126 : decode b_M_ticket 126 = .ok (.iconst 1, 1) := by decide +kernel
theorem d_M_ticket_127 : decode b_M_ticket 127 = .ok (.invokevirtual 121, 3) := by decide +kernel
theorem d_M_ticket_130 : decode b_M_ticket 130 = .ok (.ldc 159, 2) := by decide +kernel
theorem d_M_ticket_132 : decode b_M_ticket 132 = .ok (.iand, 1) := by decide +kernel
theorem d_M_ticket_133 : decode b_M_ticket 133 = .ok (.ireturn, 1) := by decide +kernel
theorem d_M_ticket_134 : decode b_M_ticket 134 = .ok (.aload_n 0, 1) := by decide +kernel
theorem d_M_ticket_135 : decode b_M_ticket 135 = .ok (.iload_n 3, 1) := by decide +kernel
theorem d_M_ticket_136 : decode b_M_ticket 136 = .ok (.iconst 2, 1) := by decide +kernel
theorem d_M_ticket_137 : decode b_M_ticket 137 = .ok (.invokevirtual 121, 3) := by decide +kernel
theorem d_M_ticket_140 : decode b_M_ticket 140 = .ok (.bipush 26, 2) := by decide +kernel
theorem d_M_ticket_142 : decode b_M_ticket 142 = .ok (.iushr, 1) := by decide +kernel
theorem d_M_ticket_143 : decode b_M_ticket 143 = .ok (.ireturn, 1) := by decide +kernel
theorem d_M_ticket_144 : decode b_M_ticket 144 = .ok (.aload_n 0, 1) := by decide +kernel
theorem d_M_ticket_145 : decode b_M_ticket 145 = .ok (.iload_n 3, 1) := by decide +kernel
theorem d_M_ticket_146 : decode b_M_ticket 146 = .ok (.iconst 2, 1) := by decide +kernel
theorem d_M_ticket_147 : decode b_M_ticket 147 = .ok (.invokevirtual 121, 3) := by decide +kernel
theorem d_M_ticket_150 : decode b_M_ticket 150 = .ok (.ldc 142, 2) := by decide +kernel
theorem d_M_ticket_152 : decode b_M_ticket 152 = .ok (.iand, 1) := by decide +kernel
theorem d_M_ticket_153 : decode b_M_ticket 153 = .ok (.ireturn, 1) := by decide +kernel
theorem d_M_ticket_154 : decode b_M_ticket 154 = .ok (.aload_n 0, 1) := by decide +kernel
theorem d_M_ticket_155 : decode b_M_ticket 155 = .ok (.iload_n 1, 1) := by decide +kernel
theorem d_M_ticket_156 : decode b_M_ticket 156 = .ok (.invokevirtual 152, 3) := by decide +kernel
theorem d_M_ticket_159 : decode b_M_ticket 159 = .ok (.ireturn, 1) := by decide +kernel
theorem d_M_ticket_160 : decode b_M_ticket 160 = .ok (.aload_n 0, 1) := by decide +kernel
theorem d_M_ticket_161 : decode b_M_ticket 161 = .ok (.iload_n 3, 1) := by decide +kernel
theorem d_M_ticket_162 : decode b_M_ticket 162 = .ok (.iconst 3, 1) := by decide +kernel
theorem d_M_ticket_163 : decode b_M_ticket 163 = .ok (.invokevirtual 121, 3) := by decide +kernel
theorem d_M_ticket_166 : decode b_M_ticket 166 = .ok (.ireturn, 1) := by decide +kernel
theorem d_M_dayTotal_0 : decode b_M_dayTotal 0 = .ok (.aload_n 0, 1) := by decide +kernel
theorem d_M_dayTotal_1 : decode b_M_dayTotal 1 = .ok (.iconst 1, 1) := by decide +kernel
theorem d_M_dayTotal_2 : decode b_M_dayTotal 2 = .ok (.aload_n 0, 1) := by decide +kernel
theorem d_M_dayTotal_3 : decode b_M_dayTotal 3 = .ok (.getfield 23, 3) := by decide +kernel
theorem d_M_dayTotal_6 : decode b_M_dayTotal 6 = .ok (.ifCond .ne (7), 3) := by decide +kernel
theorem d_M_dayTotal_9 : decode b_M_dayTotal 9 = .ok (.iconst 1, 1) := by decide +kernel
theorem d_M_dayTotal_10 : decode b_M_dayTotal 10 = .ok (.goto (4), 3) := by decide +kernel
theorem d_M_dayTotal_13 : decode b_M_dayTotal 13 = .ok (.iconst 0, 1) := by decide +kernel
theorem d_M_dayTotal_14 : decode b_M_dayTotal 14 = .ok (.invokevirtual 137, 3) := by decide +kernel
theorem d_M_dayTotal_17 : decode b_M_dayTotal 17 = .ok (.ifCond .eq (5), 3) := by decide +kernel
theorem d_M_dayTotal_20 : decode b_M_dayTotal 20 = .ok (.lconst 0, 1) := by decide +kernel
theorem d_M_dayTotal_21 : decode b_M_dayTotal 21 = .ok (.lreturn, 1) := by decide +kernel
theorem d_M_dayTotal_22 : decode b_M_dayTotal 22 = .ok (.lconst 0, 1) := by decide +kernel
theorem d_M_dayTotal_23 : decode b_M_dayTotal 23 = .ok (.lstore_n 3, 1) := by decide +kernel
theorem d_M_dayTotal_24 : decode b_M_dayTotal 24 = .ok (.iconst 1, 1) := by decide +kernel
theorem d_M_dayTotal_25 : decode b_M_dayTotal 25 = .ok (.istore 5, 2) := by decide +kernel
theorem d_M_dayTotal_27 : decode b_M_dayTotal 27 = .ok (.iload 5, 2) := by decide +kernel
theorem d_M_dayTotal_29 : decode b_M_dayTotal 29 = .ok (.aload_n 0, 1) := by decide +kernel
theorem d_M_dayTotal_30 : decode b_M_dayTotal 30 = .ok (.invokevirtual 149, 3) := by decide +kernel
theorem d_M_dayTotal_33 : decode b_M_dayTotal 33 = .ok (.if_icmp .gt (68), 3) := by decide +kernel
theorem d_M_dayTotal_36 : decode b_M_dayTotal 36 = .ok (.aload_n 0, 1) := by decide +kernel
theorem d_M_dayTotal_37 : decode b_M_dayTotal 37 = .ok (.iload 5, 2) := by decide +kernel
theorem d_M_dayTotal_39 : decode b_M_dayTotal 39 = .ok (.invokevirtual 127, 3) := by decide +kernel
theorem d_M_dayTotal_42 : decode b_M_dayTotal 42 = .ok (.istore 6, 2) := by decide +kernel
theorem d_M_dayTotal_44 : decode b_M_dayTotal 44 = .ok (.aload_n 0, 1) := by decide +kernel
theorem d_M_dayTotal_45 : decode b_M_dayTotal 45 = .ok (.iload 6, 2) := by decide +kernel
theorem d_M_dayTotal_47 : decode b_M_dayTotal 47 = .ok (.iconst 2, 1) := by decide +kernel
theorem d_M_dayTotal_48 : decode b_M_dayTotal 48 = .ok (.invokevirtual 121, 3) := by decide +kernel
theorem d_M_dayTotal_51 : decode b_M_dayTotal 51 = .ok (.bipush 26, 2) := by decide +kernel
theorem d_M_dayTotal_53 : decode b_M_dayTotal 53 = .ok (.iushr, 1) := by decide +kernel
theorem d_M_dayTotal_54 : decode b_M_dayTotal 54 = .ok (.iload_n 2, 1) := by decide +kernel
theorem d_M_dayTotal_55 : decode b_M_dayTotal 55 = .ok (.if_icmp .ne (40), 3) := by decide +kernel
theorem d_M_dayTotal_58 : decode b_M_dayTotal 58 = .ok (.aload_n 0, 1) := by decide +kernel
theorem d_M_dayTotal_59 : decode b_M_dayTotal 59 = .ok (.iload 6, 2) := by decide +kernel
theorem d_M_dayTotal_61 : decode b_M_dayTotal 61 = .ok (.iconst 2, 1) := by decide +kernel
theorem d_M_dayTotal_62 : decode b_M_dayTotal 62 = .ok (.invokevirtual 121, 3) := by decide +kernel
theorem d_M_dayTotal_65 : decode b_M_dayTotal 65 = .ok (.ldc 142, 2) := by decide +kernel
theorem d_M_dayTotal_67 : decode b_M_dayTotal 67 = .ok (.iand, 1) := by decide +kernel
theorem d_M_dayTotal_68 : decode b_M_dayTotal 68 = .ok (.sipush 1440, 3) := by decide +kernel
theorem d_M_dayTotal_71 : decode b_M_dayTotal 71 = .ok (.idiv, 1) := by decide +kernel
theorem d_M_dayTotal_72 : decode b_M_dayTotal 72 = .ok (.iload_n 1, 1) := by decide +kernel
theorem d_M_dayTotal_73 : decode b_M_dayTotal 73 = .ok (.if_icmp .ne (22), 3) := by decide +kernel
theorem d_M_dayTotal_76 : decode b_M_dayTotal 76 = .ok (.aload_n 0, 1) := by decide +kernel
theorem d_M_dayTotal_77 : decode b_M_dayTotal 77 = .ok (.iload 5, 2) := by decide +kernel
theorem d_M_dayTotal_79 : decode b_M_dayTotal 79 = .ok (.invokevirtual 152, 3) := by decide +kernel
theorem d_M_dayTotal_82 : decode b_M_dayTotal 82 = .ok (.ifCond .ne (13), 3) := by decide +kernel
theorem d_M_dayTotal_85 : decode b_M_dayTotal 85 = .ok (.lload_n 3, 1) := by decide +kernel
theorem d_M_dayTotal_86 : decode b_M_dayTotal 86 = .ok (.aload_n 0, 1) := by decide +kernel
theorem d_M_dayTotal_87 : decode b_M_dayTotal 87 = .ok (.iload 6, 2) := by decide +kernel
theorem d_M_dayTotal_89 : decode b_M_dayTotal 89 = .ok (.invokevirtual 160, 3) := by decide +kernel
theorem d_M_dayTotal_92 : decode b_M_dayTotal 92 = .ok (.i2l, 1) := by decide +kernel
theorem d_M_dayTotal_93 : decode b_M_dayTotal 93 = .ok (.ladd, 1) := by decide +kernel
theorem d_M_dayTotal_94 : decode b_M_dayTotal 94 = .ok (.lstore_n 3, 1) := by decide +kernel
theorem d_M_dayTotal_95 : decode b_M_dayTotal 95 = .ok (.iinc 5 1, 3) := by decide +kernel
theorem d_M_dayTotal_98 : decode b_M_dayTotal 98 = .ok (.goto (-71), 3) := by decide +kernel
theorem d_M_dayTotal_101 : decode b_M_dayTotal 101 = .ok (.lload_n 3, 1) := by decide +kernel
theorem d_M_dayTotal_102 : decode b_M_dayTotal 102 = .ok (.lreturn, 1) := by decide +kernel
theorem d_M_rangeTotal_0 : decode b_M_rangeTotal 0 = .ok (.aload_n 0, 1) := by decide +kernel
theorem d_M_rangeTotal_1 : decode b_M_rangeTotal 1 = .ok (.iconst 1, 1) := by decide +kernel
theorem d_M_rangeTotal_2 : decode b_M_rangeTotal 2 = .ok (.aload_n 0, 1) := by decide +kernel
theorem d_M_rangeTotal_3 : decode b_M_rangeTotal 3 = .ok (.getfield 23, 3) := by decide +kernel
theorem d_M_rangeTotal_6 : decode b_M_rangeTotal 6 = .ok (.ifCond .ne (7), 3) := by decide +kernel
theorem d_M_rangeTotal_9 : decode b_M_rangeTotal 9 = .ok (.iconst 1, 1) := by decide +kernel
theorem d_M_rangeTotal_10 : decode b_M_rangeTotal 10 = .ok (.goto (4), 3) := by decide +kernel
theorem d_M_rangeTotal_13 : decode b_M_rangeTotal 13 = .ok (.iconst 0, 1) := by decide +kernel
theorem d_M_rangeTotal_14 : decode b_M_rangeTotal 14 = .ok (.invokevirtual 137, 3) := by decide +kernel
theorem d_M_rangeTotal_17 : decode b_M_rangeTotal 17 = .ok (.ifCond .eq (5), 3) := by decide +kernel
theorem d_M_rangeTotal_20 : decode b_M_rangeTotal 20 = .ok (.lconst 0, 1) := by decide +kernel
theorem d_M_rangeTotal_21 : decode b_M_rangeTotal 21 = .ok (.lreturn, 1) := by decide +kernel
theorem d_M_rangeTotal_22 : decode b_M_rangeTotal 22 = .ok (.lconst 0, 1) := by decide +kernel
theorem d_M_rangeTotal_23 : decode b_M_rangeTotal 23 = .ok (.lstore_n 3, 1) := by decide +kernel
theorem d_M_rangeTotal_24 : decode b_M_rangeTotal 24 = .ok (.iconst 1, 1) := by decide +kernel
theorem d_M_rangeTotal_25 : decode b_M_rangeTotal 25 = .ok (.istore 5, 2) := by decide +kernel
theorem d_M_rangeTotal_27 : decode b_M_rangeTotal 27 = .ok (.iload 5, 2) := by decide +kernel
theorem d_M_rangeTotal_29 : decode b_M_rangeTotal 29 = .ok (.aload_n 0, 1) := by decide +kernel
theorem d_M_rangeTotal_30 : decode b_M_rangeTotal 30 = .ok (.invokevirtual 149, 3) := by decide +kernel
theorem d_M_rangeTotal_33 : decode b_M_rangeTotal 33 = .ok (.if_icmp .gt (44), 3) := by decide +kernel
theorem d_M_rangeTotal_36 : decode b_M_rangeTotal 36 = .ok (.iload 5, 2) := by decide +kernel
theorem d_M_rangeTotal_38 : decode b_M_rangeTotal 38 = .ok (.iload_n 1, 1) := by decide +kernel
theorem d_M_rangeTotal_39 : decode b_M_rangeTotal 39 = .ok (.if_icmp .lt (32), 3) := by decide +kernel
theorem d_M_rangeTotal_42 : decode b_M_rangeTotal 42 = .ok (.iload 5, 2) := by decide +kernel
theorem d_M_rangeTotal_44 : decode b_M_rangeTotal 44 = .ok (.iload_n 2, 1) := by decide +kernel
theorem d_M_rangeTotal_45 : decode b_M_rangeTotal 45 = .ok (.if_icmp .gt (26), 3) := by decide +kernel
theorem d_M_rangeTotal_48 : decode b_M_rangeTotal 48 = .ok (.aload_n 0, 1) := by decide +kernel
theorem d_M_rangeTotal_49 : decode b_M_rangeTotal 49 = .ok (.iload 5, 2) := by decide +kernel
theorem d_M_rangeTotal_51 : decode b_M_rangeTotal 51 = .ok (.invokevirtual 152, 3) := by decide +kernel
theorem d_M_rangeTotal_54 : decode b_M_rangeTotal 54 = .ok (.ifCond .ne (17), 3) := by decide +kernel
theorem d_M_rangeTotal_57 : decode b_M_rangeTotal 57 = .ok (.lload_n 3, 1) := by decide +kernel
theorem d_M_rangeTotal_58 : decode b_M_rangeTotal 58 = .ok (.aload_n 0, 1) := by decide +kernel
theorem d_M_rangeTotal_59 : decode b_M_rangeTotal 59 = .ok (.aload_n 0, 1) := by decide +kernel
theorem d_M_rangeTotal_60 : decode b_M_rangeTotal 60 = .ok (.iload 5, 2) := by decide +kernel
theorem d_M_rangeTotal_62 : decode b_M_rangeTotal 62 = .ok (.invokevirtual 127, 3) := by decide +kernel
theorem d_M_rangeTotal_65 : decode b_M_rangeTotal 65 = .ok (.invokevirtual 160, 3) := by decide +kernel
theorem d_M_rangeTotal_68 : decode b_M_rangeTotal 68 = .ok (.i2l, 1) := by decide +kernel
theorem d_M_rangeTotal_69 : decode b_M_rangeTotal 69 = .ok (.ladd, 1) := by decide +kernel
theorem d_M_rangeTotal_70 : decode b_M_rangeTotal 70 = .ok (.lstore_n 3, 1) := by decide +kernel
theorem d_M_rangeTotal_71 : decode b_M_rangeTotal 71 = .ok (.iinc 5 1, 3) := by decide +kernel
theorem d_M_rangeTotal_74 : decode b_M_rangeTotal 74 = .ok (.goto (-47), 3) := by decide +kernel
theorem d_M_rangeTotal_77 : decode b_M_rangeTotal 77 = .ok (.lload_n 3, 1) := by decide +kernel
theorem d_M_rangeTotal_78 : decode b_M_rangeTotal 78 = .ok (.lreturn, 1) := by decide +kernel
theorem d_M_find_0 : decode b_M_find 0 = .ok (.aload_n 0, 1) := by decide +kernel
theorem d_M_find_1 : decode b_M_find 1 = .ok (.iconst 1, 1) := by decide +kernel
theorem d_M_find_2 : decode b_M_find 2 = .ok (.aload_n 0, 1) := by decide +kernel
theorem d_M_find_3 : decode b_M_find 3 = .ok (.getfield 23, 3) := by decide +kernel
theorem d_M_find_6 : decode b_M_find 6 = .ok (.ifCond .ne (7), 3) := by decide +kernel
theorem d_M_find_9 : decode b_M_find 9 = .ok (.iconst 1, 1) := by decide +kernel
theorem d_M_find_10 : decode b_M_find 10 = .ok (.goto (4), 3) := by decide +kernel
theorem d_M_find_13 : decode b_M_find 13 = .ok (.iconst 0, 1) := by decide +kernel
theorem d_M_find_14 : decode b_M_find 14 = .ok (.invokevirtual 137, 3) := by decide +kernel
theorem d_M_find_17 : decode b_M_find 17 = .ok (.ifCond .eq (5), 3) := by decide +kernel
theorem d_M_find_20 : decode b_M_find 20 = .ok (.iconst 0, 1) := by decide +kernel
theorem d_M_find_21 : decode b_M_find 21 = .ok (.ireturn, 1) := by decide +kernel
theorem d_M_find_22 : decode b_M_find 22 = .ok (.iconst 1, 1) := by decide +kernel
theorem d_M_find_23 : decode b_M_find 23 = .ok (.istore_n 3, 1) := by decide +kernel
theorem d_M_find_24 : decode b_M_find 24 = .ok (.iload_n 3, 1) := by decide +kernel
theorem d_M_find_25 : decode b_M_find 25 = .ok (.aload_n 0, 1) := by decide +kernel
theorem d_M_find_26 : decode b_M_find 26 = .ok (.invokevirtual 149, 3) := by decide +kernel
theorem d_M_find_29 : decode b_M_find 29 = .ok (.if_icmp .gt (30), 3) := by decide +kernel
theorem d_M_find_32 : decode b_M_find 32 = .ok (.iload_n 3, 1) := by decide +kernel
theorem d_M_find_33 : decode b_M_find 33 = .ok (.iload_n 2, 1) := by decide +kernel
theorem d_M_find_34 : decode b_M_find 34 = .ok (.if_icmp .lt (19), 3) := by decide +kernel
theorem d_M_find_37 : decode b_M_find 37 = .ok (.aload_n 0, 1) := by decide +kernel
theorem d_M_find_38 : decode b_M_find 38 = .ok (.aload_n 0, 1) := by decide +kernel
theorem d_M_find_39 : decode b_M_find 39 = .ok (.iload_n 3, 1) := by decide +kernel
theorem d_M_find_40 : decode b_M_find 40 = .ok (.invokevirtual 127, 3) := by decide +kernel
theorem d_M_find_43 : decode b_M_find 43 = .ok (.iconst 0, 1) := by decide +kernel
theorem d_M_find_44 : decode b_M_find 44 = .ok (.invokevirtual 121, 3) := by decide +kernel
theorem d_M_find_47 : decode b_M_find 47 = .ok (.iload_n 1, 1) := by decide +kernel
theorem d_M_find_48 : decode b_M_find 48 = .ok (.if_icmp .ne (5), 3) := by decide +kernel
theorem d_M_find_51 : decode b_M_find 51 = .ok (.iload_n 3, 1) := by decide +kernel
theorem d_M_find_52 : decode b_M_find 52 = .ok (.ireturn, 1) := by decide +kernel
theorem d_M_find_53 : decode b_M_find 53 = .ok (.iinc 3 1, 3) := by decide +kernel
theorem d_M_find_56 : decode b_M_find 56 = .ok (.goto (-32), 3) := by decide +kernel
theorem d_M_find_59 : decode b_M_find 59 = .ok (.iconst 0, 1) := by decide +kernel
theorem d_M_find_60 : decode b_M_find 60 = .ok (.ireturn, 1) := by decide +kernel
theorem d_M_audit_0 : decode b_M_audit 0 = .ok (.aload_n 0, 1) := by decide +kernel
theorem d_M_audit_1 : decode b_M_audit 1 = .ok (.iconst 1, 1) := by decide +kernel
theorem d_M_audit_2 : decode b_M_audit 2 = .ok (.aload_n 0, 1) := by decide +kernel
theorem d_M_audit_3 : decode b_M_audit 3 = .ok (.getfield 23, 3) := by decide +kernel
theorem d_M_audit_6 : decode b_M_audit 6 = .ok (.ifCond .ne (7), 3) := by decide +kernel
theorem d_M_audit_9 : decode b_M_audit 9 = .ok (.iconst 1, 1) := by decide +kernel
theorem d_M_audit_10 : decode b_M_audit 10 = .ok (.goto (4), 3) := by decide +kernel
theorem d_M_audit_13 : decode b_M_audit 13 = .ok (.iconst 0, 1) := by decide +kernel
theorem d_M_audit_14 : decode b_M_audit 14 = .ok (.invokevirtual 137, 3) := by decide +kernel
theorem d_M_audit_17 : decode b_M_audit 17 = .ok (.ifCond .eq (5), 3) := by decide +kernel
theorem d_M_audit_20 : decode b_M_audit 20 = .ok (.iconst 0, 1) := by decide +kernel
theorem d_M_audit_21 : decode b_M_audit 21 = .ok (.ireturn, 1) := by decide +kernel
theorem d_M_audit_22 : decode b_M_audit 22 = .ok (.iconst 1, 1) := by decide +kernel
theorem d_M_audit_23 : decode b_M_audit 23 = .ok (.istore_n 3, 1) := by decide +kernel
theorem d_M_audit_24 : decode b_M_audit 24 = .ok (.iload_n 3, 1) := by decide +kernel
theorem d_M_audit_25 : decode b_M_audit 25 = .ok (.aload_n 0, 1) := by decide +kernel
theorem d_M_audit_26 : decode b_M_audit 26 = .ok (.invokevirtual 149, 3) := by decide +kernel
theorem d_M_audit_29 : decode b_M_audit 29 = .ok (.if_icmp .gt (33), 3) := by decide +kernel
theorem d_M_audit_32 : decode b_M_audit 32 = .ok (.iload_n 3, 1) := by decide +kernel
theorem d_M_audit_33 : decode b_M_audit 33 = .ok (.iload_n 1, 1) := by decide +kernel
theorem d_M_audit_34 : decode b_M_audit 34 = .ok (.if_icmp .lt (22), 3) := by decide +kernel
theorem d_M_audit_37 : decode b_M_audit 37 = .ok (.iload_n 3, 1) := by decide +kernel
theorem d_M_audit_38 : decode b_M_audit 38 = .ok (.iload_n 2, 1) := by decide +kernel
theorem d_M_audit_39 : decode b_M_audit 39 = .ok (.if_icmp .gt (17), 3) := by decide +kernel
theorem d_M_audit_42 : decode b_M_audit 42 = .ok (.aload_n 0, 1) := by decide +kernel
theorem d_M_audit_43 : decode b_M_audit 43 = .ok (.aload_n 0, 1) := by decide +kernel
theorem d_M_audit_44 : decode b_M_audit 44 = .ok (.iload_n 3, 1) := by decide +kernel
theorem d_M_audit_45 : decode b_M_audit 45 = .ok (.invokevirtual 127, 3) := by decide +kernel
theorem d_M_audit_48 : decode b_M_audit 48 = .ok (.invokevirtual 169, 3) := by decide +kernel
theorem d_M_audit_51 : decode b_M_audit 51 = .ok (.ifCond .eq (5), 3) := by decide +kernel
theorem d_M_audit_54 : decode b_M_audit 54 = .ok (.iload_n 3, 1) := by decide +kernel
theorem d_M_audit_55 : decode b_M_audit 55 = .ok (.ireturn, 1) := by decide +kernel
theorem d_M_audit_56 : decode b_M_audit 56 = .ok (.iinc 3 1, 3) := by decide +kernel
theorem d_M_audit_59 : decode b_M_audit 59 = .ok (.goto (-35), 3) := by decide +kernel
theorem d_M_audit_62 : decode b_M_audit 62 = .ok (.iconst 0, 1) := by decide +kernel
theorem d_M_audit_63 : decode b_M_audit 63 = .ok (.ireturn, 1) := by decide +kernel
theorem d_M_exportByte_0 : decode b_M_exportByte 0 = .ok (.aload_n 0, 1) := by decide +kernel
theorem d_M_exportByte_1 : decode b_M_exportByte 1 = .ok (.iconst 1, 1) := by decide +kernel
theorem d_M_exportByte_2 : decode b_M_exportByte 2 = .ok (.aload_n 0, 1) := by decide +kernel
theorem d_M_exportByte_3 : decode b_M_exportByte 3 = .ok (.getfield 23, 3) := by decide +kernel
theorem d_M_exportByte_6 : decode b_M_exportByte 6 = .ok (.ifCond .ne (7), 3) := by decide +kernel
theorem d_M_exportByte_9 : decode b_M_exportByte 9 = .ok (.iconst 1, 1) := by decide +kernel
theorem d_M_exportByte_10 : decode b_M_exportByte 10 = .ok (.goto (4), 3) := by decide +kernel
theorem d_M_exportByte_13 : decode b_M_exportByte 13 = .ok (.iconst 0, 1) := by decide +kernel
theorem d_M_exportByte_14 : decode b_M_exportByte 14 = .ok (.invokevirtual 137, 3) := by decide +kernel
theorem d_M_exportByte_17 : decode b_M_exportByte 17 = .ok (.ifCond .eq (5), 3) := by decide +kernel
theorem d_M_exportByte_20 : decode b_M_exportByte 20 = .ok (.iconst 0, 1) := by decide +kernel
theorem d_M_exportByte_21 : decode b_M_exportByte 21 = .ok (.ireturn, 1) := by decide +kernel
theorem d_M_exportByte_22 : decode b_M_exportByte 22 = .ok (.aload_n 0, 1) := by decide +kernel
theorem d_M_exportByte_23 : decode b_M_exportByte 23 = .ok (.iconst 0, 1) := by decide +kernel
theorem d_M_exportByte_24 : decode b_M_exportByte 24 = .ok (.putfield 172, 3) := by decide +kernel
theorem d_M_exportByte_27 : decode b_M_exportByte 27 = .ok (.aload_n 0, 1) := by decide +kernel
theorem d_M_exportByte_28 : decode b_M_exportByte 28 = .ok (.iload_n 3, 1) := by decide +kernel
theorem d_M_exportByte_29 : decode b_M_exportByte 29 = .ok (.putfield 175, 3) := by decide +kernel
theorem d_M_exportByte_32 : decode b_M_exportByte 32 = .ok (.aload_n 0, 1) := by decide +kernel
theorem d_M_exportByte_33 : decode b_M_exportByte 33 = .ok (.iconst (-1), 1) := by decide +kernel
theorem d_M_exportByte_34 : decode b_M_exportByte 34 = .ok (.putfield 178, 3) := by decide +kernel
theorem d_M_exportByte_37 : decode b_M_exportByte 37 = .ok (.iconst 1, 1) := by decide +kernel
theorem d_M_exportByte_38 : decode b_M_exportByte 38 = .ok (.istore 4, 2) := by decide +kernel
theorem d_M_exportByte_40 : decode b_M_exportByte 40 = .ok (.iload 4, 2) := by decide +kernel
theorem d_M_exportByte_42 : decode b_M_exportByte 42 = .ok (.aload_n 0, 1) := by decide +kernel
theorem d_M_exportByte_43 : decode b_M_exportByte 43 = .ok (.invokevirtual 149, 3) := by decide +kernel
theorem d_M_exportByte_46 : decode b_M_exportByte 46 = .ok (.if_icmp .gt (122), 3) := by decide +kernel
theorem d_M_exportByte_49 : decode b_M_exportByte 49 = .ok (.iload 4, 2) := by decide +kernel
theorem d_M_exportByte_51 : decode b_M_exportByte 51 = .ok (.iload_n 1, 1) := by decide +kernel
theorem d_M_exportByte_52 : decode b_M_exportByte 52 = .ok (.if_icmp .lt (110), 3) := by decide +kernel
theorem d_M_exportByte_55 : decode b_M_exportByte 55 = .ok (.iload 4, 2) := by decide +kernel
theorem d_M_exportByte_57 : decode b_M_exportByte 57 = .ok (.iload_n 2, 1) := by decide +kernel
theorem d_M_exportByte_58 : decode b_M_exportByte 58 = .ok (.if_icmp .le (6), 3) := by decide +kernel
theorem d_M_exportByte_61 : decode b_M_exportByte 61 = .ok (.goto (101), 3) := by decide +kernel
theorem d_M_exportByte_64 : decode b_M_exportByte 64 = .ok (.aload_n 0, 1) := by decide +kernel
theorem d_M_exportByte_65 : decode b_M_exportByte 65 = .ok (.iload 4, 2) := by decide +kernel
theorem d_M_exportByte_67 : decode b_M_exportByte 67 = .ok (.invokevirtual 127, 3) := by decide +kernel
theorem d_M_exportByte_70 : decode b_M_exportByte 70 = .ok (.istore 5, 2) := by decide +kernel
theorem d_M_exportByte_72 : decode b_M_exportByte 72 = .ok (.aload_n 0, 1) := by decide +kernel
theorem d_M_exportByte_73 : decode b_M_exportByte 73 = .ok (.iload 4, 2) := by decide +kernel
theorem d_M_exportByte_75 : decode b_M_exportByte 75 = .ok (.i2l, 1) := by decide +kernel
theorem d_M_exportByte_76 : decode b_M_exportByte 76 = .ok (.invokevirtual 191, 3) := by decide +kernel
theorem d_M_exportByte_79 : decode b_M_exportByte 79 = .ok (.aload_n 0, 1) := by decide +kernel
theorem d_M_exportByte_80 : decode b_M_exportByte 80 = .ok (.bipush 32, 2) := by decide +kernel
theorem d_M_exportByte_82 : decode b_M_exportByte 82 = .ok (.invokevirtual 181, 3) := by decide +kernel
theorem d_M_exportByte_85 : decode b_M_exportByte 85 = .ok (.aload_n 0, 1) := by decide +kernel
theorem d_M_exportByte_86 : decode b_M_exportByte 86 = .ok (.aload_n 0, 1) := by decide +kernel
theorem d_M_exportByte_87 : decode b_M_exportByte 87 = .ok (.iload 5, 2) := by decide +kernel
theorem d_M_exportByte_89 : decode b_M_exportByte 89 = .ok (.iconst 0, 1) := by decide +kernel
theorem d_M_exportByte_90 : decode b_M_exportByte 90 = .ok (.invokevirtual 121, 3) := by decide +kernel
theorem d_M_exportByte_93 : decode b_M_exportByte 93 = .ok (.i2l, 1) := by decide +kernel
theorem d_M_exportByte_94 : decode b_M_exportByte 94 = .ok (.invokevirtual 191, 3) := by decide +kernel
theorem d_M_exportByte_97 : decode b_M_exportByte 97 = .ok (.aload_n 0, 1) := by decide +kernel
theorem d_M_exportByte_98 : decode b_M_exportByte 98 = .ok (.bipush 32, 2) := by decide +kernel
theorem d_M_exportByte_100 : decode b_M_exportByte 100 = .ok (.invokevirtual 181, 3) := by decide +kernel
theorem d_M_exportByte_103 : decode b_M_exportByte 103 = .ok (.aload_n 0, 1) := by decide +kernel
theorem d_M_exportByte_104 : decode b_M_exportByte 104 = .ok (.aload_n 0, 1) := by decide +kernel
theorem d_M_exportByte_105 : decode b_M_exportByte 105 = .ok (.iload 5, 2) := by decide +kernel
theorem d_M_exportByte_107 : decode b_M_exportByte 107 = .ok (.invokevirtual 160, 3) := by decide +kernel
theorem d_M_exportByte_110 : decode b_M_exportByte 110 = .ok (.i2l, 1) := by decide +kernel
theorem d_M_exportByte_111 : decode b_M_exportByte 111 = .ok (.invokevirtual 191, 3) := by decide +kernel
theorem d_M_exportByte_114 : decode b_M_exportByte 114 = .ok (.aload_n 0, 1) := by decide +kernel
theorem d_M_exportByte_115 : decode b_M_exportByte 115 = .ok (.bipush 32, 2) := by decide +kernel
theorem d_M_exportByte_117 : decode b_M_exportByte 117 = .ok (.invokevirtual 181, 3) := by decide +kernel
theorem d_M_exportByte_120 : decode b_M_exportByte 120 = .ok (.aload_n 0, 1) := by decide +kernel
theorem d_M_exportByte_121 : decode b_M_exportByte 121 = .ok (.aload_n 0, 1) := by decide +kernel
theorem d_M_exportByte_122 : decode b_M_exportByte 122 = .ok (.iload 5, 2) := by decide +kernel
theorem d_M_exportByte_124 : decode b_M_exportByte 124 = .ok (.iconst 2, 1) := by decide +kernel
theorem d_M_exportByte_125 : decode b_M_exportByte 125 = .ok (.invokevirtual 121, 3) := by decide +kernel
theorem d_M_exportByte_128 : decode b_M_exportByte 128 = .ok (.bipush 26, 2) := by decide +kernel
theorem d_M_exportByte_130 : decode b_M_exportByte 130 = .ok (.iushr, 1) := by decide +kernel
theorem d_M_exportByte_131 : decode b_M_exportByte 131 = .ok (.i2l, 1) := by decide +kernel
theorem d_M_exportByte_132 : decode b_M_exportByte 132 = .ok (.invokevirtual 191, 3) := by decide +kernel
theorem d_M_exportByte_135 : decode b_M_exportByte 135 = .ok (.aload_n 0, 1) := by decide +kernel
theorem d_M_exportByte_136 : decode b_M_exportByte 136 = .ok (.iload 4, 2) := by decide +kernel
theorem d_M_exportByte_138 : decode b_M_exportByte 138 = .ok (.invokevirtual 152, 3) := by decide +kernel
theorem d_M_exportByte_141 : decode b_M_exportByte 141 = .ok (.ifCond .le (15), 3) := by decide +kernel
theorem d_M_exportByte_144 : decode b_M_exportByte 144 = .ok (.aload_n 0, 1) := by decide +kernel
theorem d_M_exportByte_145 : decode b_M_exportByte 145 = .ok (.bipush 32, 2) := by decide +kernel
theorem d_M_exportByte_147 : decode b_M_exportByte 147 = .ok (.invokevirtual 181, 3) := by decide +kernel
theorem d_M_exportByte_150 : decode b_M_exportByte 150 = .ok (.aload_n 0, 1) := by decide +kernel
theorem d_M_exportByte_151 : decode b_M_exportByte 151 = .ok (.bipush 86, 2) := by decide +kernel
theorem d_M_exportByte_153 : decode b_M_exportByte 153 = .ok (.invokevirtual 181, 3) := by decide +kernel
theorem d_M_exportByte_156 : decode b_M_exportByte 156 = .ok (.aload_n 0, 1) := by decide +kernel
theorem d_M_exportByte_157 : decode b_M_exportByte 157 = .ok (.bipush 10, 2) := by decide +kernel
theorem d_M_exportByte_159 : decode b_M_exportByte 159 = .ok (.invokevirtual 181, 3) := by decide +kernel
theorem d_M_exportByte_162 : decode b_M_exportByte 162 = .ok (.iinc 4 1, 3) := by decide +kernel
theorem d_M_exportByte_165 : decode b_M_exportByte 165 = .ok (.goto (-125), 3) := by decide +kernel
theorem d_M_exportByte_168 : decode b_M_exportByte 168 = .ok (.aload_n 0, 1) := by decide +kernel
theorem d_M_exportByte_169 : decode b_M_exportByte 169 = .ok (.getfield 178, 3) := by decide +kernel
theorem d_M_exportByte_172 : decode b_M_exportByte 172 = .ok (.ireturn, 1) := by decide +kernel
theorem d_M_setProduct_0 : decode b_M_setProduct 0 = .ok (.aload_n 0, 1) := by decide +kernel
theorem d_M_setProduct_1 : decode b_M_setProduct 1 = .ok (.iconst 1, 1) := by decide +kernel
theorem d_M_setProduct_2 : decode b_M_setProduct 2 = .ok (.iload_n 1, 1) := by decide +kernel
theorem d_M_setProduct_3 : decode b_M_setProduct 3 = .ok (.iconst 0, 1) := by decide +kernel
theorem d_M_setProduct_4 : decode b_M_setProduct 4 = .ok (.bipush 39, 2) := by decide +kernel
theorem d_M_setProduct_6 : decode b_M_setProduct 6 = .ok (.invokestatic 130, 3) := by decide +kernel
theorem d_M_setProduct_9 : decode b_M_setProduct 9 = .ok (.ifCond .ne (7), 3) := by decide +kernel
theorem d_M_setProduct_12 : decode b_M_setProduct 12 = .ok (.iconst 1, 1) := by decide +kernel
theorem d_M_setProduct_13 : decode b_M_setProduct 13 = .ok (.goto (4), 3) := by decide +kernel
theorem d_M_setProduct_16 : decode b_M_setProduct 16 = .ok (.iconst 0, 1) := by decide +kernel
theorem d_M_setProduct_17 : decode b_M_setProduct 17 = .ok (.invokevirtual 137, 3) := by decide +kernel
theorem d_M_setProduct_20 : decode b_M_setProduct 20 = .ok (.ifCond .ne (10), 3) := by decide +kernel
theorem d_M_setProduct_23 : decode b_M_setProduct 23 = .ok (.aload_n 0, 1) := by decide +kernel
theorem d_M_setProduct_24 : decode b_M_setProduct 24 = .ok (.getfield 20, 3) := by decide +kernel
theorem d_M_setProduct_27 : decode b_M_setProduct 27 = .ok (.iload_n 1, 1) := by decide +kernel
theorem d_M_setProduct_28 : decode b_M_setProduct 28 = .ok (.iload_n 2, 1) := by decide +kernel
theorem d_M_setProduct_29 : decode b_M_setProduct 29 = .ok (.bastore, 1) := by decide +kernel
theorem d_M_setProduct_30 : decode b_M_setProduct 30 = .ok (.return_, 1) := by decide +kernel
theorem d_M_cutAfter_0 : decode b_M_cutAfter 0 = .ok (.aload_n 0, 1) := by decide +kernel
theorem d_M_cutAfter_1 : decode b_M_cutAfter 1 = .ok (.iconst 1, 1) := by decide +kernel
theorem d_M_cutAfter_2 : decode b_M_cutAfter 2 = .ok (.iload_n 1, 1) := by decide +kernel
theorem d_M_cutAfter_3 : decode b_M_cutAfter 3 = .ok (.iconst 0, 1) := by decide +kernel
theorem d_M_cutAfter_4 : decode b_M_cutAfter 4 = .ok (.sipush 300, 3) := by decide +kernel
theorem d_M_cutAfter_7 : decode b_M_cutAfter 7 = .ok (.invokestatic 130, 3) := by decide +kernel
theorem d_M_cutAfter_10 : decode b_M_cutAfter 10 = .ok (.ifCond .ne (7), 3) := by decide +kernel
theorem d_M_cutAfter_13 : decode b_M_cutAfter 13 = .ok (.iconst 1, 1) := by decide +kernel
theorem d_M_cutAfter_14 : decode b_M_cutAfter 14 = .ok (.goto (4), 3) := by decide +kernel
theorem d_M_cutAfter_17 : decode b_M_cutAfter 17 = .ok (.iconst 0, 1) := by decide +kernel
theorem d_M_cutAfter_18 : decode b_M_cutAfter 18 = .ok (.invokevirtual 137, 3) := by decide +kernel
theorem d_M_cutAfter_21 : decode b_M_cutAfter 21 = .ok (.ifCond .ne (8), 3) := by decide +kernel
theorem d_M_cutAfter_24 : decode b_M_cutAfter 24 = .ok (.aload_n 0, 1) := by decide +kernel
theorem d_M_cutAfter_25 : decode b_M_cutAfter 25 = .ok (.iload_n 1, 1) := by decide +kernel
theorem d_M_cutAfter_26 : decode b_M_cutAfter 26 = .ok (.putfield 27, 3) := by decide +kernel
theorem d_M_cutAfter_29 : decode b_M_cutAfter 29 = .ok (.return_, 1) := by decide +kernel
theorem d_M_crash_0 : decode b_M_crash 0 = .ok (.aload_n 0, 1) := by decide +kernel
theorem d_M_crash_1 : decode b_M_crash 1 = .ok (.iconst 0, 1) := by decide +kernel
theorem d_M_crash_2 : decode b_M_crash 2 = .ok (.putfield 49, 3) := by decide +kernel
theorem d_M_crash_5 : decode b_M_crash 5 = .ok (.aload_n 0, 1) := by decide +kernel
theorem d_M_crash_6 : decode b_M_crash 6 = .ok (.invokevirtual 72, 3) := by decide +kernel
theorem d_M_crash_9 : decode b_M_crash 9 = .ok (.return_, 1) := by decide +kernel
theorem d_M_mount_0 : decode b_M_mount 0 = .ok (.aload_n 0, 1) := by decide +kernel
theorem d_M_mount_1 : decode b_M_mount 1 = .ok (.iconst 0, 1) := by decide +kernel
theorem d_M_mount_2 : decode b_M_mount 2 = .ok (.putfield 49, 3) := by decide +kernel
theorem d_M_mount_5 : decode b_M_mount 5 = .ok (.aload_n 0, 1) := by decide +kernel
theorem d_M_mount_6 : decode b_M_mount 6 = .ok (.invokevirtual 72, 3) := by decide +kernel
theorem d_M_mount_9 : decode b_M_mount 9 = .ok (.aload_n 0, 1) := by decide +kernel
theorem d_M_mount_10 : decode b_M_mount 10 = .ok (.iconst 1, 1) := by decide +kernel
theorem d_M_mount_11 : decode b_M_mount 11 = .ok (.putfield 23, 3) := by decide +kernel
theorem d_M_mount_14 : decode b_M_mount 14 = .ok (.aload_n 0, 1) := by decide +kernel
theorem d_M_mount_15 : decode b_M_mount 15 = .ok (.iconst (-1), 1) := by decide +kernel
theorem d_M_mount_16 : decode b_M_mount 16 = .ok (.invokevirtual 195, 3) := by decide +kernel
theorem d_M_mount_19 : decode b_M_mount 19 = .ok (.istore_n 1, 1) := by decide +kernel
theorem d_M_mount_20 : decode b_M_mount 20 = .ok (.aload_n 0, 1) := by decide +kernel
theorem d_M_mount_21 : decode b_M_mount 21 = .ok (.iload_n 1, 1) := by decide +kernel
theorem d_M_mount_22 : decode b_M_mount 22 = .ok (.ifCond .ge (7), 3) := by decide +kernel
theorem d_M_mount_25 : decode b_M_mount 25 = .ok (.iconst 0, 1) := by decide +kernel
theorem d_M_mount_26 : decode b_M_mount 26 = .ok (.goto (14), 3) := by decide +kernel
theorem d_M_mount_29 : decode b_M_mount 29 = .ok (.aload_n 0, 1) := by decide +kernel
theorem d_M_mount_30 : decode b_M_mount 30 = .ok (.getfield 7, 3) := by decide +kernel
theorem d_M_mount_33 : decode b_M_mount 33 = .ok (.bipush 16, 2) := by decide +kernel
theorem d_M_mount_35 : decode b_M_mount 35 = .ok (.iload_n 1, 1) := by decide +kernel
theorem d_M_mount_36 : decode b_M_mount 36 = .ok (.imul, 1) := by decide +kernel
theorem d_M_mount_37 : decode b_M_mount 37 = .ok (.iconst 1, 1) := by decide +kernel
theorem d_M_mount_38 : decode b_M_mount 38 = .ok (.iadd, 1) := by decide +kernel
theorem d_M_mount_39 : decode b_M_mount 39 = .ok (.iaload, 1) := by decide +kernel
theorem d_M_mount_40 : decode b_M_mount 40 = .ok (.putfield 55, 3) := by decide +kernel
theorem d_M_mount_43 : decode b_M_mount 43 = .ok (.aload_n 0, 1) := by decide +kernel
theorem d_M_mount_44 : decode b_M_mount 44 = .ok (.iload_n 1, 1) := by decide +kernel
theorem d_M_mount_45 : decode b_M_mount 45 = .ok (.ifCond .ge (7), 3) := by decide +kernel
theorem d_M_mount_48 : decode b_M_mount 48 = .ok (.iconst (-1), 1) := by decide +kernel
theorem d_M_mount_49 : decode b_M_mount 49 = .ok (.goto (6), 3) := by decide +kernel
theorem d_M_mount_52 : decode b_M_mount 52 = .ok (.iload_n 1, 1) := by decide +kernel
theorem d_M_mount_53 : decode b_M_mount 53 = .ok (.iconst 4, 1) := by decide +kernel
theorem d_M_mount_54 : decode b_M_mount 54 = .ok (.idiv, 1) := by decide +kernel
theorem d_M_mount_55 : decode b_M_mount 55 = .ok (.putfield 40, 3) := by decide +kernel
theorem d_M_mount_58 : decode b_M_mount 58 = .ok (.iconst 1, 1) := by decide +kernel
theorem d_M_mount_59 : decode b_M_mount 59 = .ok (.istore_n 2, 1) := by decide +kernel
theorem d_M_mount_60 : decode b_M_mount 60 = .ok (.iconst 0, 1) := by decide +kernel
theorem d_M_mount_61 : decode b_M_mount 61 = .ok (.istore_n 3, 1) := by decide +kernel
theorem d_M_mount_62 : decode b_M_mount 62 = .ok (.iload_n 3, 1) := by decide +kernel
theorem d_M_mount_63 : decode b_M_mount 63 = .ok (.bipush 16, 2) := by decide +kernel
theorem d_M_mount_65 : decode b_M_mount 65 = .ok (.if_icmp .ge (134), 3) := by decide +kernel
theorem d_M_mount_68 : decode b_M_mount 68 = .ok (.iload_n 2, 1) := by decide +kernel
theorem d_M_mount_69 : decode b_M_mount 69 = .ok (.ifCond .eq (130), 3) := by decide +kernel
theorem d_M_mount_72 : decode b_M_mount 72 = .ok (.aload_n 0, 1) := by decide +kernel
theorem d_M_mount_73 : decode b_M_mount 73 = .ok (.iload_n 3, 1) := by decide +kernel
theorem d_M_mount_74 : decode b_M_mount 74 = .ok (.invokevirtual 195, 3) := by decide +kernel
theorem d_M_mount_77 : decode b_M_mount 77 = .ok (.istore 4, 2) := by decide +kernel
theorem d_M_mount_79 : decode b_M_mount 79 = .ok (.iload 4, 2) := by decide +kernel
theorem d_M_mount_81 : decode b_M_mount 81 = .ok (.ifCond .ge (6), 3) := by decide +kernel
theorem d_M_mount_84 : decode b_M_mount 84 = .ok (.goto (115), 3) := by decide +kernel
theorem d_M_mount_87 : decode b_M_mount 87 = .ok (.aload_n 0, 1) := by decide +kernel
theorem d_M_mount_88 : decode b_M_mount 88 = .ok (.getfield 34, 3) := by decide +kernel
theorem d_M_mount_91 : decode b_M_mount 91 = .ok (.iload_n 3, 1) := by decide +kernel
theorem d_M_mount_92 : decode b_M_mount 92 = .ok (.iload 4, 2) := by decide +kernel
theorem d_M_mount_94 : decode b_M_mount 94 = .ok (.iastore, 1) := by decide +kernel
theorem d_M_mount_95 : decode b_M_mount 95 = .ok (.aload_n 0, 1) := by decide +kernel
theorem d_M_mount_96 : decode b_M_mount 96 = .ok (.getfield 37, 3) := by decide +kernel
theorem d_M_mount_99 : decode b_M_mount 99 = .ok (.iload_n 3, 1) := by decide +kernel
theorem d_M_mount_100 : decode b_M_mount 100 = .ok (.aload_n 0, 1) := by decide +kernel
theorem d_M_mount_101 : decode b_M_mount 101 = .ok (.getfield 7, 3) := by decide +kernel
theorem d_M_mount_104 : decode b_M_mount 104 = .ok (.bipush 16, 2) := by decide +kernel
theorem d_M_mount_106 : decode b_M_mount 106 = .ok (.iload 4, 2) := by decide +kernel
theorem d_M_mount_108 : decode b_M_mount 108 = .ok (.imul, 1) := by decide +kernel
theorem d_M_mount_109 : decode b_M_mount 109 = .ok (.iaload, 1) := by decide +kernel
theorem d_M_mount_110 : decode b_M_mount 110 = .ok (.iconst 4, 1) := by decide +kernel
theorem d_M_mount_111 : decode b_M_mount 111 = .ok (.irem, 1) := by decide +kernel
theorem d_M_mount_112 : decode b_M_mount 112 = .ok (.iastore, 1) := by decide +kernel
theorem d_M_mount_113 : decode b_M_mount 113 = .ok (.iconst 0, 1) := by decide +kernel
theorem d_M_mount_114 : decode b_M_mount 114 = .ok (.istore 5, 2) := by decide +kernel
theorem d_M_mount_116 : decode b_M_mount 116 = .ok (.iload 5, 2) := by decide +kernel
theorem d_M_mount_118 : decode b_M_mount 118 = .ok (.iconst 4, 1) := by decide +kernel
theorem d_M_mount_119 : decode b_M_mount 119 = .ok (.aload_n 0, 1) := by decide +kernel
theorem d_M_mount_120 : decode b_M_mount 120 = .ok (.getfield 37, 3) := by decide +kernel
theorem d_M_mount_123 : decode b_M_mount 123 = .ok (.iload_n 3, 1) := by decide +kernel
theorem d_M_mount_124 : decode b_M_mount 124 = .ok (.iaload, 1) := by decide +kernel
theorem d_M_mount_125 : decode b_M_mount 125 = .ok (.imul, 1) := by decide +kernel
theorem d_M_mount_126 : decode b_M_mount 126 = .ok (.if_icmp .ge (36), 3) := by decide +kernel
theorem d_M_mount_129 : decode b_M_mount 129 = .ok (.aload_n 0, 1) := by decide +kernel
theorem d_M_mount_130 : decode b_M_mount 130 = .ok (.getfield 31, 3) := by decide +kernel
theorem d_M_mount_133 : decode b_M_mount 133 = .ok (.bipush 12, 2) := by decide +kernel
theorem d_M_mount_135 : decode b_M_mount 135 = .ok (.iload_n 3, 1) := by decide +kernel
theorem d_M_mount_136 : decode b_M_mount 136 = .ok (.imul, 1) := by decide +kernel
theorem d_M_mount_137 : decode b_M_mount 137 = .ok (.iload 5, 2) := by decide +kernel
theorem d_M_mount_139 : decode b_M_mount 139 = .ok (.iadd, 1) := by decide +kernel
theorem d_M_mount_140 : decode b_M_mount 140 = .ok (.aload_n 0, 1) := by decide +kernel
theorem d_M_mount_141 : decode b_M_mount 141 = .ok (.getfield 7, 3) := by decide +kernel
theorem d_M_mount_144 : decode b_M_mount 144 = .ok (.bipush 16, 2) := by decide +kernel
theorem d_M_mount_146 : decode b_M_mount 146 = .ok (.iload 4, 2) := by decide +kernel
theorem d_M_mount_148 : decode b_M_mount 148 = .ok (.imul, 1) := by decide +kernel
theorem d_M_mount_149 : decode b_M_mount 149 = .ok (.iconst 2, 1) := by decide +kernel
theorem d_M_mount_150 : decode b_M_mount 150 = .ok (.iadd, 1) := by decide +kernel
theorem d_M_mount_151 : decode b_M_mount 151 = .ok (.iload 5, 2) := by decide +kernel
theorem d_M_mount_153 : decode b_M_mount 153 = .ok (.iadd, 1) := by decide +kernel
theorem d_M_mount_154 : decode b_M_mount 154 = .ok (.iaload, 1) := by decide +kernel
theorem d_M_mount_155 : decode b_M_mount 155 = .ok (.iastore, 1) := by decide +kernel
theorem d_M_mount_156 : decode b_M_mount 156 = .ok (.iinc 5 1, 3) := by decide +kernel
theorem d_M_mount_159 : decode b_M_mount 159 = .ok (.goto (-43), 3) := by decide +kernel
theorem d_M_mount_162 : decode b_M_mount 162 = .ok (.aload_n 0, 1) := by decide +kernel
theorem d_M_mount_163 : decode b_M_mount 163 = .ok (.dup, 1) := by decide +kernel
theorem d_M_mount_164 : decode b_M_mount 164 = .ok (.getfield 52, 3) := by decide +kernel
theorem d_M_mount_167 : decode b_M_mount 167 = .ok (.aload_n 0, 1) := by decide +kernel
theorem d_M_mount_168 : decode b_M_mount 168 = .ok (.getfield 37, 3) := by decide +kernel
theorem d_M_mount_171 : decode b_M_mount 171 = .ok (.iload_n 3, 1) := by decide +kernel
theorem d_M_mount_172 : decode b_M_mount 172 = .ok (.iaload, 1) := by decide +kernel
theorem d_M_mount_173 : decode b_M_mount 173 = .ok (.iadd, 1) := by decide +kernel
theorem d_M_mount_174 : decode b_M_mount 174 = .ok (.putfield 52, 3) := by decide +kernel
theorem d_M_mount_177 : decode b_M_mount 177 = .ok (.aload_n 0, 1) := by decide +kernel
theorem d_M_mount_178 : decode b_M_mount 178 = .ok (.getfield 37, 3) := by decide +kernel
theorem d_M_mount_181 : decode b_M_mount 181 = .ok (.iload_n 3, 1) := by decide +kernel
theorem d_M_mount_182 : decode b_M_mount 182 = .ok (.iaload, 1) := by decide +kernel
theorem d_M_mount_183 : decode b_M_mount 183 = .ok (.iconst 3, 1) := by decide +kernel
theorem d_M_mount_184 : decode b_M_mount 184 = .ok (.if_icmp .ne (7), 3) := by decide +kernel
theorem d_M_mount_187 : decode b_M_mount 187 = .ok (.iconst 1, 1) := by decide +kernel
theorem d_M_mount_188 : decode b_M_mount 188 = .ok (.goto (4), 3) := by decide +kernel
theorem d_M_mount_191 : decode b_M_mount 191 = .ok (.iconst 0, 1) := by decide +kernel
theorem d_M_mount_192 : decode b_M_mount 192 = .ok (.istore_n 2, 1) := by decide +kernel
theorem d_M_mount_193 : decode b_M_mount 193 = .ok (.iinc 3 1, 3) := by decide +kernel
theorem d_M_mount_196 : decode b_M_mount 196 = .ok (.goto (-134), 3) := by decide +kernel
theorem d_M_mount_199 : decode b_M_mount 199 = .ok (.aload_n 0, 1) := by decide +kernel
theorem d_M_mount_200 : decode b_M_mount 200 = .ok (.invokevirtual 149, 3) := by decide +kernel
theorem d_M_mount_203 : decode b_M_mount 203 = .ok (.ireturn, 1) := by decide +kernel
theorem d_M_wearOf_0 : decode b_M_wearOf 0 = .ok (.aload_n 0, 1) := by decide +kernel
theorem d_M_wearOf_1 : decode b_M_wearOf 1 = .ok (.iconst 1, 1) := by decide +kernel
theorem d_M_wearOf_2 : decode b_M_wearOf 2 = .ok (.iload_n 1, 1) := by decide +kernel
theorem d_M_wearOf_3 : decode b_M_wearOf 3 = .ok (.iconst 0, 1) := by decide +kernel
theorem d_M_wearOf_4 : decode b_M_wearOf 4 = .ok (.bipush 7, 2) := by decide +kernel
theorem d_M_wearOf_6 : decode b_M_wearOf 6 = .ok (.invokestatic 130, 3) := by decide +kernel
theorem d_M_wearOf_9 : decode b_M_wearOf 9 = .ok (.ifCond .ne (7), 3) := by decide +kernel
theorem d_M_wearOf_12 : decode b_M_wearOf 12 = .ok (.iconst 1, 1) := by decide +kernel
theorem d_M_wearOf_13 : decode b_M_wearOf 13 = .ok (.goto (4), 3) := by decide +kernel
theorem d_M_wearOf_16 : decode b_M_wearOf 16 = .ok (.iconst 0, 1) := by decide +kernel
theorem d_M_wearOf_17 : decode b_M_wearOf 17 = .ok (.invokevirtual 137, 3) := by decide +kernel
theorem d_M_wearOf_20 : decode b_M_wearOf 20 = .ok (.ifCond .eq (7), 3) := by decide +kernel
theorem d_M_wearOf_23 : decode b_M_wearOf 23 = .ok (.iconst 0, 1) := by decide +kernel
theorem d_M_wearOf_24 : decode b_M_wearOf 24 = .ok (.goto (9), 3) := by decide +kernel
theorem d_M_wearOf_27 : decode b_M_wearOf 27 = .ok (.aload_n 0, 1) := by decide +kernel
theorem d_M_wearOf_28 : decode b_M_wearOf 28 = .ok (.getfield 13, 3) := by decide +kernel
theorem d_M_wearOf_31 : decode b_M_wearOf 31 = .ok (.iload_n 1, 1) := by decide +kernel
theorem d_M_wearOf_32 : decode b_M_wearOf 32 = .ok (.iaload, 1) := by decide +kernel
theorem d_M_wearOf_33 : decode b_M_wearOf 33 = .ok (.ireturn, 1) := by decide +kernel
theorem d_M_failBlock_0 : decode b_M_failBlock 0 = .ok (.aload_n 0, 1) := by decide +kernel
theorem d_M_failBlock_1 : decode b_M_failBlock 1 = .ok (.iconst 1, 1) := by decide +kernel
theorem d_M_failBlock_2 : decode b_M_failBlock 2 = .ok (.iload_n 1, 1) := by decide +kernel
theorem d_M_failBlock_3 : decode b_M_failBlock 3 = .ok (.iconst 0, 1) := by decide +kernel
theorem d_M_failBlock_4 : decode b_M_failBlock 4 = .ok (.bipush 7, 2) := by decide +kernel
theorem d_M_failBlock_6 : decode b_M_failBlock 6 = .ok (.invokestatic 130, 3) := by decide +kernel
theorem d_M_failBlock_9 : decode b_M_failBlock 9 = .ok (.ifCond .ne (7), 3) := by decide +kernel
theorem d_M_failBlock_12 : decode b_M_failBlock 12 = .ok (.iconst 1, 1) := by decide +kernel
theorem d_M_failBlock_13 : decode b_M_failBlock 13 = .ok (.goto (4), 3) := by decide +kernel
theorem d_M_failBlock_16 : decode b_M_failBlock 16 = .ok (.iconst 0, 1) := by decide +kernel
theorem d_M_failBlock_17 : decode b_M_failBlock 17 = .ok (.invokevirtual 137, 3) := by decide +kernel
theorem d_M_failBlock_20 : decode b_M_failBlock 20 = .ok (.ifCond .ne (10), 3) := by decide +kernel
theorem d_M_failBlock_23 : decode b_M_failBlock 23 = .ok (.aload_n 0, 1) := by decide +kernel
theorem d_M_failBlock_24 : decode b_M_failBlock 24 = .ok (.getfield 16, 3) := by decide +kernel
theorem d_M_failBlock_27 : decode b_M_failBlock 27 = .ok (.iload_n 1, 1) := by decide +kernel
theorem d_M_failBlock_28 : decode b_M_failBlock 28 = .ok (.iconst 1, 1) := by decide +kernel
theorem d_M_failBlock_29 : decode b_M_failBlock 29 = .ok (.bastore, 1) := by decide +kernel
theorem d_M_failBlock_30 : decode b_M_failBlock 30 = .ok (.return_, 1) := by decide +kernel
theorem d_M_poke_0 : decode b_M_poke 0 = .ok (.aload_n 0, 1) := by decide +kernel
theorem d_M_poke_1 : decode b_M_poke 1 = .ok (.iconst 1, 1) := by decide +kernel
theorem d_M_poke_2 : decode b_M_poke 2 = .ok (.iload_n 1, 1) := by decide +kernel
theorem d_M_poke_3 : decode b_M_poke 3 = .ok (.iconst 0, 1) := by decide +kernel
theorem d_M_poke_4 : decode b_M_poke 4 = .ok (.bipush 31, 2) := by decide +kernel
theorem d_M_poke_6 : decode b_M_poke 6 = .ok (.invokestatic 130, 3) := by decide +kernel
theorem d_M_poke_9 : decode b_M_poke 9 = .ok (.ifCond .eq (13), 3) := by decide +kernel
theorem d_M_poke_12 : decode b_M_poke 12 = .ok (.iload_n 2, 1) := by decide +kernel
theorem d_M_poke_13 : decode b_M_poke 13 = .ok (.iconst 0, 1) := by decide +kernel
theorem d_M_poke_14 : decode b_M_poke 14 = .ok (.bipush 15, 2) := by decide +kernel
theorem d_M_poke_16 : decode b_M_poke 16 = .ok (.invokestatic 130, 3) := by decide +kernel
theorem d_M_poke_19 : decode b_M_poke 19 = .ok (.ifCond .ne (7), 3) := by decide +kernel
theorem d_M_poke_22 : decode b_M_poke 22 = .ok (.iconst 1, 1) := by decide +kernel
theorem d_M_poke_23 : decode b_M_poke 23 = .ok (.goto (4), 3) := by decide +kernel
theorem d_M_poke_26 : decode b_M_poke 26 = .ok (.iconst 0, 1) := by decide +kernel
theorem d_M_poke_27 : decode b_M_poke 27 = .ok (.invokevirtual 137, 3) := by decide +kernel
theorem d_M_poke_30 : decode b_M_poke 30 = .ok (.ifCond .ne (18), 3) := by decide +kernel
theorem d_M_poke_33 : decode b_M_poke 33 = .ok (.aload_n 0, 1) := by decide +kernel
theorem d_M_poke_34 : decode b_M_poke 34 = .ok (.getfield 7, 3) := by decide +kernel
theorem d_M_poke_37 : decode b_M_poke 37 = .ok (.bipush 16, 2) := by decide +kernel
theorem d_M_poke_39 : decode b_M_poke 39 = .ok (.iload_n 1, 1) := by decide +kernel
theorem d_M_poke_40 : decode b_M_poke 40 = .ok (.imul, 1) := by decide +kernel
theorem d_M_poke_41 : decode b_M_poke 41 = .ok (.iload_n 2, 1) := by decide +kernel
theorem d_M_poke_42 : decode b_M_poke 42 = .ok (.iadd, 1) := by decide +kernel
theorem d_M_poke_43 : decode b_M_poke 43 = .ok (.dup2, 1) := by decide +kernel
theorem d_M_poke_44 : decode b_M_poke 44 = .ok (.iaload, 1) := by decide +kernel
theorem d_M_poke_45 : decode b_M_poke 45 = .ok (.iload_n 3, 1) := by decide +kernel
theorem d_M_poke_46 : decode b_M_poke 46 = .ok (.ixor, 1) := by decide +kernel
theorem d_M_poke_47 : decode b_M_poke 47 = .ok (.iastore, 1) := by decide +kernel
theorem d_M_poke_48 : decode b_M_poke 48 = .ok (.return_, 1) := by decide +kernel
theorem d_M_word_0 : decode b_M_word 0 = .ok (.aload_n 0, 1) := by decide +kernel
theorem d_M_word_1 : decode b_M_word 1 = .ok (.iconst 1, 1) := by decide +kernel
theorem d_M_word_2 : decode b_M_word 2 = .ok (.iload_n 1, 1) := by decide +kernel
theorem d_M_word_3 : decode b_M_word 3 = .ok (.iconst 0, 1) := by decide +kernel
theorem d_M_word_4 : decode b_M_word 4 = .ok (.bipush 31, 2) := by decide +kernel
theorem d_M_word_6 : decode b_M_word 6 = .ok (.invokestatic 130, 3) := by decide +kernel
theorem d_M_word_9 : decode b_M_word 9 = .ok (.ifCond .eq (13), 3) := by decide +kernel
theorem d_M_word_12 : decode b_M_word 12 = .ok (.iload_n 2, 1) := by decide +kernel
theorem d_M_word_13 : decode b_M_word 13 = .ok (.iconst 0, 1) := by decide +kernel
theorem d_M_word_14 : decode b_M_word 14 = .ok (.bipush 15, 2) := by decide +kernel
theorem d_M_word_16 : decode b_M_word 16 = .ok (.invokestatic 130, 3) := by decide +kernel
theorem d_M_word_19 : decode b_M_word 19 = .ok (.ifCond .ne (7), 3) := by decide +kernel
theorem d_M_word_22 : decode b_M_word 22 = .ok (.iconst 1, 1) := by decide +kernel
theorem d_M_word_23 : decode b_M_word 23 = .ok (.goto (4), 3) := by decide +kernel
theorem d_M_word_26 : decode b_M_word 26 = .ok (.iconst 0, 1) := by decide +kernel
theorem d_M_word_27 : decode b_M_word 27 = .ok (.invokevirtual 137, 3) := by decide +kernel
theorem d_M_word_30 : decode b_M_word 30 = .ok (.ifCond .eq (7), 3) := by decide +kernel
theorem d_M_word_33 : decode b_M_word 33 = .ok (.iconst 0, 1) := by decide +kernel
theorem d_M_word_34 : decode b_M_word 34 = .ok (.goto (14), 3) := by decide +kernel
theorem d_M_word_37 : decode b_M_word 37 = .ok (.aload_n 0, 1) := by decide +kernel
theorem d_M_word_38 : decode b_M_word 38 = .ok (.getfield 7, 3) := by decide +kernel
theorem d_M_word_41 : decode b_M_word 41 = .ok (.bipush 16, 2) := by decide +kernel
theorem d_M_word_43 : decode b_M_word 43 = .ok (.iload_n 1, 1) := by decide +kernel
theorem d_M_word_44 : decode b_M_word 44 = .ok (.imul, 1) := by decide +kernel
theorem d_M_word_45 : decode b_M_word 45 = .ok (.iload_n 2, 1) := by decide +kernel
theorem d_M_word_46 : decode b_M_word 46 = .ok (.iadd, 1) := by decide +kernel
theorem d_M_word_47 : decode b_M_word 47 = .ok (.iaload, 1) := by decide +kernel
theorem d_M_word_48 : decode b_M_word 48 = .ok (.ireturn, 1) := by decide +kernel
theorem d_M_state_0 : decode b_M_state 0 = .ok (.aload_n 0, 1) := by decide +kernel
theorem d_M_state_1 : decode b_M_state 1 = .ok (.iconst 0, 1) := by decide +kernel
theorem d_M_state_2 : decode b_M_state 2 = .ok (.putfield 49, 3) := by decide +kernel
theorem d_M_state_5 : decode b_M_state 5 = .ok (.iload_n 1, 1) := by decide +kernel
theorem d_M_state_6 : decode b_M_state 6 = .ok (.tableswitch 103 0 8 #[50, 55, 60, 65, 70, 75, 80, 85, 90], 50) := by decide +kernel
theorem d_M_state_56 : decode b_M_state 56 = .ok (.aload_n 0, 1) := by decide +kernel
theorem d_M_state_57 : decode b_M_state 57 = .ok (.getfield 52, 3) := by decide +kernel
theorem d_M_state_60 : decode b_M_state 60 = .ok (.ireturn, 1) := by decide +kernel
theorem d_M_state_61 : decode b_M_state 61 = .ok (.aload_n 0, 1) := by decide +kernel
theorem d_M_state_62 : decode b_M_state 62 = .ok (.invokevirtual 156, 3) := by decide +kernel
theorem d_M_state_65 : decode b_M_state 65 = .ok (.ireturn, 1) := by decide +kernel
theorem d_M_state_66 : decode b_M_state 66 = .ok (.aload_n 0, 1) := by decide +kernel
theorem d_M_state_67 : decode b_M_state 67 = .ok (.invokevirtual 149, 3) := by decide +kernel
theorem d_M_state_70 : decode b_M_state 70 = .ok (.ireturn, 1) := by decide +kernel
theorem d_M_state_71 : decode b_M_state 71 = .ok (.aload_n 0, 1) := by decide +kernel
theorem d_M_state_72 : decode b_M_state 72 = .ok (.invokevirtual 198, 3) := by decide +kernel
theorem d_M_state_75 : decode b_M_state 75 = .ok (.ireturn, 1) := by decide +kernel
theorem d_M_state_76 : decode b_M_state 76 = .ok (.aload_n 0, 1) := by decide +kernel
theorem d_M_state_77 : decode b_M_state 77 = .ok (.getfield 58, 3) := by decide +kernel
theorem d_M_state_80 : decode b_M_state 80 = .ok (.ireturn, 1) := by decide +kernel
theorem d_M_state_81 : decode b_M_state 81 = .ok (.aload_n 0, 1) := by decide +kernel
theorem d_M_state_82 : decode b_M_state 82 = .ok (.getfield 55, 3) := by decide +kernel
theorem d_M_state_85 : decode b_M_state 85 = .ok (.ireturn, 1) := by decide +kernel
theorem d_M_state_86 : decode b_M_state 86 = .ok (.aload_n 0, 1) := by decide +kernel
theorem d_M_state_87 : decode b_M_state 87 = .ok (.getfield 40, 3) := by decide +kernel
theorem d_M_state_90 : decode b_M_state 90 = .ok (.ireturn, 1) := by decide +kernel
theorem d_M_state_91 : decode b_M_state 91 = .ok (.aload_n 0, 1) := by decide +kernel
theorem d_M_state_92 : decode b_M_state 92 = .ok (.invokevirtual 201, 3) := by decide +kernel
theorem d_M_state_95 : decode b_M_state 95 = .ok (.ireturn, 1) := by decide +kernel
theorem d_M_state_96 : decode b_M_state 96 = .ok (.aload_n 0, 1) := by decide +kernel
theorem d_M_state_97 : decode b_M_state 97 = .ok (.getfield 23, 3) := by decide +kernel
theorem d_M_state_100 : decode b_M_state 100 = .ok (.ifCond .eq (7), 3) := by decide +kernel
theorem d_M_state_103 : decode b_M_state 103 = .ok (.iconst 1, 1) := by decide +kernel
theorem d_M_state_104 : decode b_M_state 104 = .ok (.goto (4), 3) := by decide +kernel
theorem d_M_state_107 : decode b_M_state 107 = .ok (.iconst 0, 1) := by decide +kernel
theorem d_M_state_108 : decode b_M_state 108 = .ok (.ireturn, 1) := by decide +kernel
theorem d_M_state_109 : decode b_M_state 109 = .ok (.iconst (-1), 1) := by decide +kernel
theorem d_M_state_110 : decode b_M_state 110 = .ok (.ireturn, 1) := by decide +kernel
theorem d_R_requireArgument_0 : decode b_R_requireArgument 0 = .ok (.iload_n 0, 1) := by decide +kernel
theorem d_R_requireArgument_1 : decode b_R_requireArgument 1 = .ok (.ifCond .ne (11), 3) := by decide +kernel
theorem d_R_requireArgument_4 : decode b_R_requireArgument 4 = .ok (.new 210, 3) := by decide +kernel
theorem d_R_requireArgument_7 : decode b_R_requireArgument 7 = .ok (.dup, 1) := by decide +kernel
theorem d_R_requireArgument_8 : decode b_R_requireArgument 8 = .ok (.invokespecial 212, 3) := by decide +kernel
theorem d_R_requireArgument_11 : decode b_R_requireArgument 11 = .ok (.athrow, 1) := by decide +kernel
theorem d_R_requireArgument_12 : decode b_R_requireArgument 12 = .ok (.return_, 1) := by decide +kernel
theorem d_R_requireState_0 : decode b_R_requireState 0 = .ok (.iload_n 0, 1) := by decide +kernel
theorem d_R_requireState_1 : decode b_R_requireState 1 = .ok (.ifCond .ne (11), 3) := by decide +kernel
theorem d_R_requireState_4 : decode b_R_requireState 4 = .ok (.new 213, 3) := by decide +kernel
theorem d_R_requireState_7 : decode b_R_requireState 7 = .ok (.dup, 1) := by decide +kernel
theorem d_R_requireState_8 : decode b_R_requireState 8 = .ok (.invokespecial 215, 3) := by decide +kernel
theorem d_R_requireState_11 : decode b_R_requireState 11 = .ok (.athrow, 1) := by decide +kernel
theorem d_R_requireState_12 : decode b_R_requireState 12 = .ok (.return_, 1) := by decide +kernel
theorem d_R_requireIndex_0 : decode b_R_requireIndex 0 = .ok (.iload_n 0, 1) := by decide +kernel
theorem d_R_requireIndex_1 : decode b_R_requireIndex 1 = .ok (.ifCond .ne (11), 3) := by decide +kernel
theorem d_R_requireIndex_4 : decode b_R_requireIndex 4 = .ok (.new 216, 3) := by decide +kernel
theorem d_R_requireIndex_7 : decode b_R_requireIndex 7 = .ok (.dup, 1) := by decide +kernel
theorem d_R_requireIndex_8 : decode b_R_requireIndex 8 = .ok (.invokespecial 218, 3) := by decide +kernel
theorem d_R_requireIndex_11 : decode b_R_requireIndex 11 = .ok (.athrow, 1) := by decide +kernel
theorem d_R_requireIndex_12 : decode b_R_requireIndex 12 = .ok (.return_, 1) := by decide +kernel
theorem d_R_isProduct_0 : decode b_R_isProduct 0 = .ok (.iload_n 0, 1) := by decide +kernel
theorem d_R_isProduct_1 : decode b_R_isProduct 1 = .ok (.iconst 0, 1) := by decide +kernel
theorem d_R_isProduct_2 : decode b_R_isProduct 2 = .ok (.bipush 39, 2) := by decide +kernel
theorem d_R_isProduct_4 : decode b_R_isProduct 4 = .ok (.invokestatic 48, 3) := by decide +kernel
theorem d_R_isProduct_7 : decode b_R_isProduct 7 = .ok (.ireturn, 1) := by decide +kernel
theorem d_R_isPlace_0 : decode b_R_isPlace 0 = .ok (.iload_n 0, 1) := by decide +kernel
theorem d_R_isPlace_1 : decode b_R_isPlace 1 = .ok (.iconst 0, 1) := by decide +kernel
theorem d_R_isPlace_2 : decode b_R_isPlace 2 = .ok (.bipush 31, 2) := by decide +kernel
theorem d_R_isPlace_4 : decode b_R_isPlace 4 = .ok (.invokestatic 48, 3) := by decide +kernel
theorem d_R_isPlace_7 : decode b_R_isPlace 7 = .ok (.ifCond .eq (17), 3) := by decide +kernel
theorem d_R_isPlace_10 : decode b_R_isPlace 10 = .ok (.iload_n 1, 1) := by decide +kernel
theorem d_R_isPlace_11 : decode b_R_isPlace 11 = .ok (.iconst 0, 1) := by decide +kernel
theorem d_R_isPlace_12 : decode b_R_isPlace 12 = .ok (.bipush 15, 2) := by decide +kernel
theorem d_R_isPlace_14 : decode b_R_isPlace 14 = .ok (.invokestatic 48, 3) := by decide +kernel
theorem d_R_isPlace_17 : decode b_R_isPlace 17 = .ok (.ifCond .eq (7), 3) := by decide +kernel
theorem d_R_isPlace_20 : decode b_R_isPlace 20 = .ok (.iconst 1, 1) := by decide +kernel
theorem d_R_isPlace_21 : decode b_R_isPlace 21 = .ok (.goto (4), 3) := by decide +kernel
theorem d_R_isPlace_24 : decode b_R_isPlace 24 = .ok (.iconst 0, 1) := by decide +kernel
theorem d_R_isPlace_25 : decode b_R_isPlace 25 = .ok (.ireturn, 1) := by decide +kernel
theorem d_R_axle_0 : decode b_R_axle 0 = .ok (.iload_n 1, 1) := by decide +kernel
theorem d_R_axle_1 : decode b_R_axle 1 = .ok (.iconst 1, 1) := by decide +kernel
theorem d_R_axle_2 : decode b_R_axle 2 = .ok (.sipush 1200, 3) := by decide +kernel
theorem d_R_axle_5 : decode b_R_axle 5 = .ok (.invokestatic 48, 3) := by decide +kernel
theorem d_R_axle_8 : decode b_R_axle 8 = .ok (.invokestatic 52, 3) := by decide +kernel
theorem d_R_axle_11 : decode b_R_axle 11 = .ok (.aload_n 0, 1) := by decide +kernel
theorem d_R_axle_12 : decode b_R_axle 12 = .ok (.getfield 20, 3) := by decide +kernel
theorem d_R_axle_15 : decode b_R_axle 15 = .ok (.invokevirtual 56, 3) := by decide +kernel
theorem d_R_axle_18 : decode b_R_axle 18 = .ok (.ifCond .eq (16), 3) := by decide +kernel
theorem d_R_axle_21 : decode b_R_axle 21 = .ok (.aload_n 0, 1) := by decide +kernel
theorem d_R_axle_22 : decode b_R_axle 22 = .ok (.getfield 41, 3) := by decide +kernel
theorem d_R_axle_25 : decode b_R_axle 25 = .ok (.bipush 9, 2) := by decide +kernel
theorem d_R_axle_27 : decode b_R_axle 27 = .ok (.if_icmp .ge (7), 3) := by decide +kernel
theorem d_R_axle_30 : decode b_R_axle 30 = .ok (.iconst 1, 1) := by decide +kernel
theorem d_R_axle_31 : decode b_R_axle 31 = .ok (.goto (4), 3) := by decide +kernel
theorem d_R_axle_34 : decode b_R_axle 34 = .ok (.iconst 0, 1) := by decide +kernel
theorem d_R_axle_35 : decode b_R_axle 35 = .ok (.invokestatic 62, 3) := by decide +kernel
theorem d_R_axle_38 : decode b_R_axle 38 = .ok (.aload_n 0, 1) := by decide +kernel
theorem d_R_axle_39 : decode b_R_axle 39 = .ok (.dup, 1) := by decide +kernel
theorem d_R_axle_40 : decode b_R_axle 40 = .ok (.getfield 41, 3) := by decide +kernel
theorem d_R_axle_43 : decode b_R_axle 43 = .ok (.iconst 1, 1) := by decide +kernel
theorem d_R_axle_44 : decode b_R_axle 44 = .ok (.iadd, 1) := by decide +kernel
theorem d_R_axle_45 : decode b_R_axle 45 = .ok (.putfield 41, 3) := by decide +kernel
theorem d_R_axle_48 : decode b_R_axle 48 = .ok (.aload_n 0, 1) := by decide +kernel
theorem d_R_axle_49 : decode b_R_axle 49 = .ok (.dup, 1) := by decide +kernel
theorem d_R_axle_50 : decode b_R_axle 50 = .ok (.getfield 45, 3) := by decide +kernel
theorem d_R_axle_53 : decode b_R_axle 53 = .ok (.iload_n 1, 1) := by decide +kernel
theorem d_R_axle_54 : decode b_R_axle 54 = .ok (.iadd, 1) := by decide +kernel
theorem d_R_axle_55 : decode b_R_axle 55 = .ok (.putfield 45, 3) := by decide +kernel
theorem d_R_axle_58 : decode b_R_axle 58 = .ok (.aload_n 0, 1) := by decide +kernel
theorem d_R_axle_59 : decode b_R_axle 59 = .ok (.getfield 41, 3) := by decide +kernel
theorem d_R_axle_62 : decode b_R_axle 62 = .ok (.ireturn, 1) := by decide +kernel
theorem d_R_close_0 : decode b_R_close 0 = .ok (.iload_n 2, 1) := by decide +kernel
theorem d_R_close_1 : decode b_R_close 1 = .ok (.iconst 0, 1) := by decide +kernel
theorem d_R_close_2 : decode b_R_close 2 = .ok (.ldc 65, 2) := by decide +kernel
theorem d_R_close_4 : decode b_R_close 4 = .ok (.invokestatic 48, 3) := by decide +kernel
theorem d_R_close_7 : decode b_R_close 7 = .ok (.invokestatic 52, 3) := by decide +kernel
theorem d_R_close_10 : decode b_R_close 10 = .ok (.iload_n 3, 1) := by decide +kernel
theorem d_R_close_11 : decode b_R_close 11 = .ok (.invokestatic 66, 3) := by decide +kernel
theorem d_R_close_14 : decode b_R_close 14 = .ok (.invokestatic 52, 3) := by decide +kernel
theorem d_R_close_17 : decode b_R_close 17 = .ok (.iload 4, 2) := by decide +kernel
theorem d_R_close_19 : decode b_R_close 19 = .ok (.iconst 0, 1) := by decide +kernel
theorem d_R_close_20 : decode b_R_close 20 = .ok (.ldc 70, 2) := by decide +kernel
theorem d_R_close_22 : decode b_R_close 22 = .ok (.invokestatic 48, 3) := by decide +kernel
theorem d_R_close_25 : decode b_R_close 25 = .ok (.invokestatic 52, 3) := by decide +kernel
theorem d_R_close_28 : decode b_R_close 28 = .ok (.aload_n 0, 1) := by decide +kernel
theorem d_R_close_29 : decode b_R_close 29 = .ok (.getfield 20, 3) := by decide +kernel
theorem d_R_close_32 : decode b_R_close 32 = .ok (.invokevirtual 56, 3) := by decide +kernel
theorem d_R_close_35 : decode b_R_close 35 = .ok (.invokestatic 62, 3) := by decide +kernel
theorem d_R_close_38 : decode b_R_close 38 = .ok (.aload_n 0, 1) := by decide +kernel
theorem d_R_close_39 : decode b_R_close 39 = .ok (.getfield 41, 3) := by decide +kernel
theorem d_R_close_42 : decode b_R_close 42 = .ok (.ifCond .eq (33), 3) := by decide +kernel
theorem d_R_close_45 : decode b_R_close 45 = .ok (.aload_n 0, 1) := by decide +kernel
theorem d_R_close_46 : decode b_R_close 46 = .ok (.getfield 37, 3) := by decide +kernel
theorem d_R_close_49 : decode b_R_close 49 = .ok (.iload_n 3, 1) := by decide +kernel
theorem d_R_close_50 : decode b_R_close 50 = .ok (.baload, 1) := by decide +kernel
theorem d_R_close_51 : decode b_R_close 51 = .ok (.ifCond .eq (24), 3) := by decide +kernel
theorem d_R_close_54 : decode b_R_close 54 = .ok (.iload_n 2, 1) := by decide +kernel
theorem d_R_close_55 : decode b_R_close 55 = .ok (.aload_n 0, 1) := by decide +kernel
theorem d_R_close_56 : decode b_R_close 56 = .ok (.getfield 45, 3) := by decide +kernel
theorem d_R_close_59 : decode b_R_close 59 = .ok (.bipush 20, 2) := by decide +kernel
theorem d_R_close_61 : decode b_R_close 61 = .ok (.imul, 1) := by decide +kernel
theorem d_R_close_62 : decode b_R_close 62 = .ok (.if_icmp .gt (13), 3) := by decide +kernel
theorem d_R_close_65 : decode b_R_close 65 = .ok (.aload_n 0, 1) := by decide +kernel
theorem d_R_close_66 : decode b_R_close 66 = .ok (.getfield 26, 3) := by decide +kernel
theorem d_R_close_69 : decode b_R_close 69 = .ok (.invokevirtual 71, 3) := by decide +kernel
theorem d_R_close_72 : decode b_R_close 72 = .ok (.ifCond .eq (5), 3) := by decide +kernel
theorem d_R_close_75 : decode b_R_close 75 = .ok (.iconst 0, 1) := by decide +kernel
theorem d_R_close_76 : decode b_R_close 76 = .ok (.ireturn, 1) := by decide +kernel
theorem d_R_close_77 : decode b_R_close 77 = .ok (.aload_n 0, 1) := by decide +kernel
theorem d_R_close_78 : decode b_R_close 78 = .ok (.iload_n 1, 1) := by decide +kernel
theorem d_R_close_79 : decode b_R_close 79 = .ok (.aload_n 0, 1) := by decide +kernel
theorem d_R_close_80 : decode b_R_close 80 = .ok (.getfield 45, 3) := by decide +kernel
theorem d_R_close_83 : decode b_R_close 83 = .ok (.bipush 18, 2) := by decide +kernel
theorem d_R_close_85 : decode b_R_close 85 = .ok (.ishl, 1) := by decide +kernel
theorem d_R_close_86 : decode b_R_close 86 = .ok (.iload_n 2, 1) := by decide +kernel
theorem d_R_close_87 : decode b_R_close 87 = .ok (.ior, 1) := by decide +kernel
theorem d_R_close_88 : decode b_R_close 88 = .ok (.iload_n 3, 1) := by decide +kernel
theorem d_R_close_89 : decode b_R_close 89 = .ok (.bipush 26, 2) := by decide +kernel
theorem d_R_close_91 : decode b_R_close 91 = .ok (.ishl, 1) := by decide +kernel
theorem d_R_close_92 : decode b_R_close 92 = .ok (.iload 4, 2) := by decide +kernel
theorem d_R_close_94 : decode b_R_close 94 = .ok (.ior, 1) := by decide +kernel
theorem d_R_close_95 : decode b_R_close 95 = .ok (.invokevirtual 74, 3) := by decide +kernel
theorem d_R_close_98 : decode b_R_close 98 = .ok (.istore 5, 2) := by decide +kernel
theorem d_R_close_100 : decode b_R_close 100 = .ok (.iload 5, 2) := by decide +kernel
theorem d_R_close_102 : decode b_R_close 102 = .ok (.iconst 1, 1) := by decide +kernel
theorem d_R_close_103 : decode b_R_close 103 = .ok (.if_icmp .eq (6), 3) := by decide +kernel
theorem d_R_close_106 : decode b_R_close 106 = .ok (.iload 5, 2) := by decide +kernel
theorem d_R_close_108 : decode b_R_close 108 = .ok (.ireturn, 1) := by decide +kernel
theorem d_R_close_109 : decode b_R_close 109 = .ok (.aload_n 0, 1) := by decide +kernel
theorem d_R_close_110 : decode b_R_close 110 = .ok (.invokevirtual 78, 3) := by decide +kernel
theorem d_R_close_113 : decode b_R_close 113 = .ok (.aload_n 0, 1) := by decide +kernel
theorem d_R_close_114 : decode b_R_close 114 = .ok (.getfield 26, 3) := by decide +kernel
theorem d_R_close_117 : decode b_R_close 117 = .ok (.invokevirtual 81, 3) := by decide +kernel
theorem d_R_close_120 : decode b_R_close 120 = .ok (.ireturn, 1) := by decide +kernel
theorem d_R_annul_0 : decode b_R_annul 0 = .ok (.iload_n 2, 1) := by decide +kernel
theorem d_R_annul_1 : decode b_R_annul 1 = .ok (.iconst 0, 1) := by decide +kernel
theorem d_R_annul_2 : decode b_R_annul 2 = .ok (.iconst 3, 1) := by decide +kernel
theorem d_R_annul_3 : decode b_R_annul 3 = .ok (.invokestatic 48, 3) := by decide +kernel
theorem d_R_annul_6 : decode b_R_annul 6 = .ok (.invokestatic 52, 3) := by decide +kernel
theorem d_R_annul_9 : decode b_R_annul 9 = .ok (.aload_n 0, 1) := by decide +kernel
theorem d_R_annul_10 : decode b_R_annul 10 = .ok (.getfield 20, 3) := by decide +kernel
theorem d_R_annul_13 : decode b_R_annul 13 = .ok (.invokevirtual 56, 3) := by decide +kernel
theorem d_R_annul_16 : decode b_R_annul 16 = .ok (.invokestatic 62, 3) := by decide +kernel
theorem d_R_annul_19 : decode b_R_annul 19 = .ok (.aload_n 0, 1) := by decide +kernel
theorem d_R_annul_20 : decode b_R_annul 20 = .ok (.getfield 26, 3) := by decide +kernel
theorem d_R_annul_23 : decode b_R_annul 23 = .ok (.iload_n 1, 1) := by decide +kernel
theorem d_R_annul_24 : decode b_R_annul 24 = .ok (.invokevirtual 85, 3) := by decide +kernel
theorem d_R_annul_27 : decode b_R_annul 27 = .ok (.ifCond .eq (24), 3) := by decide +kernel
theorem d_R_annul_30 : decode b_R_annul 30 = .ok (.aload_n 0, 1) := by decide +kernel
theorem d_R_annul_31 : decode b_R_annul 31 = .ok (.getfield 26, 3) := by decide +kernel
theorem d_R_annul_34 : decode b_R_annul 34 = .ok (.iload_n 1, 1) := by decide +kernel
theorem d_R_annul_35 : decode b_R_annul 35 = .ok (.invokevirtual 88, 3) := by decide +kernel
theorem d_R_annul_38 : decode b_R_annul 38 = .ok (.ifCond .ne (13), 3) := by decide +kernel
theorem d_R_annul_41 : decode b_R_annul 41 = .ok (.aload_n 0, 1) := by decide +kernel
theorem d_R_annul_42 : decode b_R_annul 42 = .ok (.getfield 26, 3) := by decide +kernel
theorem d_R_annul_45 : decode b_R_annul 45 = .ok (.invokevirtual 71, 3) := by decide +kernel
theorem d_R_annul_48 : decode b_R_annul 48 = .ok (.ifCond .eq (5), 3) := by decide +kernel
theorem d_R_annul_51 : decode b_R_annul 51 = .ok (.iconst 0, 1) := by decide +kernel
theorem d_R_annul_52 : decode b_R_annul 52 = .ok (.ireturn, 1) := by decide +kernel
theorem d_R_annul_53 : decode b_R_annul 53 = .ok (.aload_n 0, 1) := by decide +kernel
theorem d_R_annul_54 : decode b_R_annul 54 = .ok (.iload_n 1, 1) := by decide +kernel
theorem d_R_annul_55 : decode b_R_annul 55 = .ok (.iload_n 2, 1) := by decide +kernel
theorem d_R_annul_56 : decode b_R_annul 56 = .ok (.ldc 91, 2) := by decide +kernel
theorem d_R_annul_58 : decode b_R_annul 58 = .ok (.invokevirtual 74, 3) := by decide +kernel
theorem d_R_annul_61 : decode b_R_annul 61 = .ok (.ireturn, 1) := by decide +kernel
theorem d_R_sync_0 : decode b_R_sync 0 = .ok (.aload_n 0, 1) := by decide +kernel
theorem d_R_sync_1 : decode b_R_sync 1 = .ok (.getfield 20, 3) := by decide +kernel
theorem d_R_sync_4 : decode b_R_sync 4 = .ok (.invokevirtual 56, 3) := by decide +kernel
theorem d_R_sync_7 : decode b_R_sync 7 = .ok (.invokestatic 62, 3) := by decide +kernel
theorem d_R_sync_10 : decode b_R_sync 10 = .ok (.aload_n 0, 1) := by decide +kernel
theorem d_R_sync_11 : decode b_R_sync 11 = .ok (.getfield 12, 3) := by decide +kernel
theorem d_R_sync_14 : decode b_R_sync 14 = .ok (.invokevirtual 92, 3) := by decide +kernel
theorem d_R_sync_17 : decode b_R_sync 17 = .ok (.aload_n 0, 1) := by decide +kernel
theorem d_R_sync_18 : decode b_R_sync 18 = .ok (.getfield 26, 3) := by decide +kernel
theorem d_R_sync_21 : decode b_R_sync 21 = .ok (.invokevirtual 95, 3) := by decide +kernel
theorem d_R_sync_24 : decode b_R_sync 24 = .ok (.if_icmp .ne (5), 3) := by decide +kernel
theorem d_R_sync_27 : decode b_R_sync 27 = .ok (.iconst 1, 1) := by decide +kernel
theorem d_R_sync_28 : decode b_R_sync 28 = .ok (.ireturn, 1) := by decide +kernel
theorem d_R_sync_29 : decode b_R_sync 29 = .ok (.aload_n 0, 1) := by decide +kernel
theorem d_R_sync_30 : decode b_R_sync 30 = .ok (.getfield 12, 3) := by decide +kernel
theorem d_R_sync_33 : decode b_R_sync 33 = .ok (.invokevirtual 98, 3) := by decide +kernel
theorem d_R_sync_36 : decode b_R_sync 36 = .ok (.istore_n 1, 1) := by decide +kernel
theorem d_R_sync_37 : decode b_R_sync 37 = .ok (.iload_n 1, 1) := by decide +kernel
theorem d_R_sync_38 : decode b_R_sync 38 = .ok (.ifCond .lt (18), 3) := by decide +kernel
theorem d_R_sync_41 : decode b_R_sync 41 = .ok (.aload_n 0, 1) := by decide +kernel
theorem d_R_sync_42 : decode b_R_sync 42 = .ok (.getfield 12, 3) := by decide +kernel
theorem d_R_sync_45 : decode b_R_sync 45 = .ok (.aload_n 0, 1) := by decide +kernel
theorem d_R_sync_46 : decode b_R_sync 46 = .ok (.getfield 26, 3) := by decide +kernel
theorem d_R_sync_49 : decode b_R_sync 49 = .ok (.iload_n 1, 1) := by decide +kernel
theorem d_R_sync_50 : decode b_R_sync 50 = .ok (.invokevirtual 101, 3) := by decide +kernel
theorem d_R_sync_53 : decode b_R_sync 53 = .ok (.goto (4), 3) := by decide +kernel
theorem d_R_sync_56 : decode b_R_sync 56 = .ok (.iload_n 1, 1) := by decide +kernel
theorem d_R_sync_57 : decode b_R_sync 57 = .ok (.ireturn, 1) := by decide +kernel
theorem d_R_dayTotal_0 : decode b_R_dayTotal 0 = .ok (.aload_n 0, 1) := by decide +kernel
theorem d_R_dayTotal_1 : decode b_R_dayTotal 1 = .ok (.getfield 20, 3) := by decide +kernel
theorem d_R_dayTotal_4 : decode b_R_dayTotal 4 = .ok (.invokevirtual 56, 3) := by decide +kernel
theorem d_R_dayTotal_7 : decode b_R_dayTotal 7 = .ok (.invokestatic 62, 3) := by decide +kernel
theorem d_R_dayTotal_10 : decode b_R_dayTotal 10 = .ok (.lconst 0, 1) := by decide +kernel
theorem d_R_dayTotal_11 : decode b_R_dayTotal 11 = .ok (.lstore_n 3, 1) := by decide +kernel
theorem d_R_dayTotal_12 : decode b_R_dayTotal 12 = .ok (.iconst 1, 1) := by decide +kernel
theorem d_R_dayTotal_13 : decode b_R_dayTotal 13 = .ok (.istore 5, 2) := by decide +kernel
theorem d_R_dayTotal_15 : decode b_R_dayTotal 15 = .ok (.iload 5, 2) := by decide +kernel
theorem d_R_dayTotal_17 : decode b_R_dayTotal 17 = .ok (.aload_n 0, 1) := by decide +kernel
theorem d_R_dayTotal_18 : decode b_R_dayTotal 18 = .ok (.getfield 26, 3) := by decide +kernel
theorem d_R_dayTotal_21 : decode b_R_dayTotal 21 = .ok (.invokevirtual 81, 3) := by decide +kernel
theorem d_R_dayTotal_24 : decode b_R_dayTotal 24 = .ok (.if_icmp .gt (76), 3) := by decide +kernel
theorem d_R_dayTotal_27 : decode b_R_dayTotal 27 = .ok (.aload_n 0, 1) := by decide +kernel
theorem d_R_dayTotal_28 : decode b_R_dayTotal 28 = .ok (.getfield 26, 3) := by decide +kernel
theorem d_R_dayTotal_31 : decode b_R_dayTotal 31 = .ok (.iload 5, 2) := by decide +kernel
theorem d_R_dayTotal_33 : decode b_R_dayTotal 33 = .ok (.invokevirtual 118, 3) := by decide +kernel
theorem d_R_dayTotal_36 : decode b_R_dayTotal 36 = .ok (.iload_n 2, 1) := by decide +kernel
theorem d_R_dayTotal_37 : decode b_R_dayTotal 37 = .ok (.if_icmp .ne (24), 3) := by decide +kernel
theorem d_R_dayTotal_40 : decode b_R_dayTotal 40 = .ok (.aload_n 0, 1) := by decide +kernel
theorem d_R_dayTotal_41 : decode b_R_dayTotal 41 = .ok (.getfield 26, 3) := by decide +kernel
theorem d_R_dayTotal_44 : decode b_R_dayTotal 44 = .ok (.iload 5, 2) := by decide +kernel
theorem d_R_dayTotal_46 : decode b_R_dayTotal 46 = .ok (.invokevirtual 121, 3) := by decide +kernel
theorem d_R_dayTotal_49 : decode b_R_dayTotal 49 = .ok (.sipush 1440, 3) := by decide +kernel
theorem d_R_dayTotal_52 : decode b_R_dayTotal 52 = .ok (.idiv, 1) := by decide +kernel
theorem d_R_dayTotal_53 : decode b_R_dayTotal 53 = .ok (.iload_n 1, 1) := by decide +kernel
theorem d_R_dayTotal_54 : decode b_R_dayTotal 54 = .ok (.if_icmp .ne (7), 3) := by decide +kernel
theorem d_R_dayTotal_57 : decode b_R_dayTotal 57 = .ok (.iconst 1, 1) := by decide +kernel
theorem d_R_dayTotal_58 : decode b_R_dayTotal 58 = .ok (.goto (4), 3) := by decide +kernel
theorem d_R_dayTotal_61 : decode b_R_dayTotal 61 = .ok (.iconst 0, 1) := by decide +kernel
theorem d_R_dayTotal_62 : decode b_R_dayTotal 62 = .ok (.istore 6, 2) := by decide +kernel
theorem d_R_dayTotal_64 : decode b_R_dayTotal 64 = .ok (.iload 6, 2) := by decide +kernel
theorem d_R_dayTotal_66 : decode b_R_dayTotal 66 = .ok (.ifCond .eq (28), 3) := by decide +kernel
theorem d_R_dayTotal_69 : decode b_R_dayTotal 69 = .ok (.aload_n 0, 1) := by decide +kernel
theorem d_R_dayTotal_70 : decode b_R_dayTotal 70 = .ok (.getfield 26, 3) := by decide +kernel
theorem d_R_dayTotal_73 : decode b_R_dayTotal 73 = .ok (.iload 5, 2) := by decide +kernel
theorem d_R_dayTotal_75 : decode b_R_dayTotal 75 = .ok (.invokevirtual 88, 3) := by decide +kernel
theorem d_R_dayTotal_78 : decode b_R_dayTotal 78 = .ok (.ifCond .ne (16), 3) := by decide +kernel
theorem d_R_dayTotal_81 : decode b_R_dayTotal 81 = .ok (.lload_n 3, 1) := by decide +kernel
theorem d_R_dayTotal_82 : decode b_R_dayTotal 82 = .ok (.aload_n 0, 1) := by decide +kernel
theorem d_R_dayTotal_83 : decode b_R_dayTotal 83 = .ok (.getfield 26, 3) := by decide +kernel
theorem d_R_dayTotal_86 : decode b_R_dayTotal 86 = .ok (.iload 5, 2) := by decide +kernel
theorem d_R_dayTotal_88 : decode b_R_dayTotal 88 = .ok (.invokevirtual 130, 3) := by decide +kernel
theorem d_R_dayTotal_91 : decode b_R_dayTotal 91 = .ok (.i2l, 1) := by decide +kernel
theorem d_R_dayTotal_92 : decode b_R_dayTotal 92 = .ok (.ladd, 1) := by decide +kernel
theorem d_R_dayTotal_93 : decode b_R_dayTotal 93 = .ok (.lstore_n 3, 1) := by decide +kernel
theorem d_R_dayTotal_94 : decode b_R_dayTotal 94 = .ok (.iinc 5 1, 3) := by decide +kernel
theorem d_R_dayTotal_97 : decode b_R_dayTotal 97 = .ok (.goto (-82), 3) := by decide +kernel
theorem d_R_dayTotal_100 : decode b_R_dayTotal 100 = .ok (.lload_n 3, 1) := by decide +kernel
theorem d_R_dayTotal_101 : decode b_R_dayTotal 101 = .ok (.lreturn, 1) := by decide +kernel
theorem d_R_rangeTotal_0 : decode b_R_rangeTotal 0 = .ok (.aload_n 0, 1) := by decide +kernel
theorem d_R_rangeTotal_1 : decode b_R_rangeTotal 1 = .ok (.getfield 20, 3) := by decide +kernel
theorem d_R_rangeTotal_4 : decode b_R_rangeTotal 4 = .ok (.invokevirtual 56, 3) := by decide +kernel
theorem d_R_rangeTotal_7 : decode b_R_rangeTotal 7 = .ok (.invokestatic 62, 3) := by decide +kernel
theorem d_R_rangeTotal_10 : decode b_R_rangeTotal 10 = .ok (.iload_n 2, 1) := by decide +kernel
theorem d_R_rangeTotal_11 : decode b_R_rangeTotal 11 = .ok (.aload_n 0, 1) := by decide +kernel
theorem d_R_rangeTotal_12 : decode b_R_rangeTotal 12 = .ok (.getfield 26, 3) := by decide +kernel
theorem d_R_rangeTotal_15 : decode b_R_rangeTotal 15 = .ok (.invokevirtual 81, 3) := by decide +kernel
theorem d_R_rangeTotal_18 : decode b_R_rangeTotal 18 = .ok (.invokestatic 133, 3) := by decide +kernel
theorem d_R_rangeTotal_21 : decode b_R_rangeTotal 21 = .ok (.istore_n 3, 1) := by decide +kernel
theorem d_R_rangeTotal_22 : decode b_R_rangeTotal 22 = .ok (.lconst 0, 1) := by decide +kernel
theorem d_R_rangeTotal_23 : decode b_R_rangeTotal 23 = .ok (.lstore 4, 2) := by decide +kernel
theorem d_R_rangeTotal_25 : decode b_R_rangeTotal 25 = .ok (.iload_n 1, 1) := by decide +kernel
theorem d_R_rangeTotal_26 : decode b_R_rangeTotal 26 = .ok (.iconst 1, 1) := by decide +kernel
theorem d_R_rangeTotal_27 : decode b_R_rangeTotal 27 = .ok (.invokestatic 139, 3) := by decide +kernel
theorem d_R_rangeTotal_30 : decode b_R_rangeTotal 30 = .ok (.istore 6, 2) := by decide +kernel
theorem d_R_rangeTotal_32 : decode b_R_rangeTotal 32 = .ok (.iload 6, 2) := by decide +kernel
theorem d_R_rangeTotal_34 : decode b_R_rangeTotal 34 = .ok (.iload_n 3, 1) := by decide +kernel
theorem d_R_rangeTotal_35 : decode b_R_rangeTotal 35 = .ok (.if_icmp .gt (36), 3) := by decide +kernel
theorem d_R_rangeTotal_38 : decode b_R_rangeTotal 38 = .ok (.aload_n 0, 1) := by decide +kernel
theorem d_R_rangeTotal_39 : decode b_R_rangeTotal 39 = .ok (.getfield 26, 3) := by decide +kernel
theorem d_R_rangeTotal_42 : decode b_R_rangeTotal 42 = .ok (.iload 6, 2) := by decide +kernel
theorem d_R_rangeTotal_44 : decode b_R_rangeTotal 44 = .ok (.invokevirtual 88, 3) := by decide +kernel
theorem d_R_rangeTotal_47 : decode b_R_rangeTotal 47 = .ok (.ifCond .ne (18), 3) := by decide +kernel
theorem d_R_rangeTotal_50 : decode b_R_rangeTotal 50 = .ok (.lload 4, 2) := by decide +kernel
theorem d_R_rangeTotal_52 : decode b_R_rangeTotal 52 = .ok (.aload_n 0, 1) := by decide +kernel
theorem d_R_rangeTotal_53 : decode b_R_rangeTotal 53 = .ok (.getfield 26, 3) := by decide +kernel
theorem d_R_rangeTotal_56 : decode b_R_rangeTotal 56 = .ok (.iload 6, 2) := by decide +kernel
theorem d_R_rangeTotal_58 : decode b_R_rangeTotal 58 = .ok (.invokevirtual 130, 3) := by decide +kernel
theorem d_R_rangeTotal_61 : decode b_R_rangeTotal 61 = .ok (.i2l, 1) := by decide +kernel
theorem d_R_rangeTotal_62 : decode b_R_rangeTotal 62 = .ok (.ladd, 1) := by decide +kernel
theorem d_R_rangeTotal_63 : decode b_R_rangeTotal 63 = .ok (.lstore 4, 2) := by decide +kernel
theorem d_R_rangeTotal_65 : decode b_R_rangeTotal 65 = .ok (.iinc 6 1, 3) := by decide +kernel
theorem d_R_rangeTotal_68 : decode b_R_rangeTotal 68 = .ok (.goto (-36), 3) := by decide +kernel
theorem d_R_rangeTotal_71 : decode b_R_rangeTotal 71 = .ok (.lload 4, 2) := by decide +kernel
theorem d_R_rangeTotal_73 : decode b_R_rangeTotal 73 = .ok (.lreturn, 1) := by decide +kernel
theorem d_R_find_0 : decode b_R_find 0 = .ok (.aload_n 0, 1) := by decide +kernel
theorem d_R_find_1 : decode b_R_find 1 = .ok (.getfield 20, 3) := by decide +kernel
theorem d_R_find_4 : decode b_R_find 4 = .ok (.invokevirtual 56, 3) := by decide +kernel
theorem d_R_find_7 : decode b_R_find 7 = .ok (.invokestatic 62, 3) := by decide +kernel
theorem d_R_find_10 : decode b_R_find 10 = .ok (.iload_n 2, 1) := by decide +kernel
theorem d_R_find_11 : decode b_R_find 11 = .ok (.iconst 1, 1) := by decide +kernel
theorem d_R_find_12 : decode b_R_find 12 = .ok (.invokestatic 139, 3) := by decide +kernel
theorem d_R_find_15 : decode b_R_find 15 = .ok (.istore_n 3, 1) := by decide +kernel
theorem d_R_find_16 : decode b_R_find 16 = .ok (.iload_n 3, 1) := by decide +kernel
theorem d_R_find_17 : decode b_R_find 17 = .ok (.aload_n 0, 1) := by decide +kernel
theorem d_R_find_18 : decode b_R_find 18 = .ok (.getfield 26, 3) := by decide +kernel
theorem d_R_find_21 : decode b_R_find 21 = .ok (.invokevirtual 81, 3) := by decide +kernel
theorem d_R_find_24 : decode b_R_find 24 = .ok (.if_icmp .gt (23), 3) := by decide +kernel
theorem d_R_find_27 : decode b_R_find 27 = .ok (.aload_n 0, 1) := by decide +kernel
theorem d_R_find_28 : decode b_R_find 28 = .ok (.getfield 26, 3) := by decide +kernel
theorem d_R_find_31 : decode b_R_find 31 = .ok (.iload_n 3, 1) := by decide +kernel
theorem d_R_find_32 : decode b_R_find 32 = .ok (.invokevirtual 108, 3) := by decide +kernel
theorem d_R_find_35 : decode b_R_find 35 = .ok (.iload_n 1, 1) := by decide +kernel
theorem d_R_find_36 : decode b_R_find 36 = .ok (.if_icmp .ne (5), 3) := by decide +kernel
theorem d_R_find_39 : decode b_R_find 39 = .ok (.iload_n 3, 1) := by decide +kernel
theorem d_R_find_40 : decode b_R_find 40 = .ok (.ireturn, 1) := by decide +kernel
theorem d_R_find_41 : decode b_R_find 41 = .ok (.iinc 3 1, 3) := by decide +kernel
theorem d_R_find_44 : decode b_R_find 44 = .ok (.goto (-28), 3) := by decide +kernel
theorem d_R_find_47 : decode b_R_find 47 = .ok (.iconst 0, 1) := by decide +kernel
theorem d_R_find_48 : decode b_R_find 48 = .ok (.ireturn, 1) := by decide +kernel
theorem d_R_audit_0 : decode b_R_audit 0 = .ok (.aload_n 0, 1) := by decide +kernel
theorem d_R_audit_1 : decode b_R_audit 1 = .ok (.getfield 20, 3) := by decide +kernel
theorem d_R_audit_4 : decode b_R_audit 4 = .ok (.invokevirtual 56, 3) := by decide +kernel
theorem d_R_audit_7 : decode b_R_audit 7 = .ok (.invokestatic 62, 3) := by decide +kernel
theorem d_R_audit_10 : decode b_R_audit 10 = .ok (.iload_n 2, 1) := by decide +kernel
theorem d_R_audit_11 : decode b_R_audit 11 = .ok (.aload_n 0, 1) := by decide +kernel
theorem d_R_audit_12 : decode b_R_audit 12 = .ok (.getfield 26, 3) := by decide +kernel
theorem d_R_audit_15 : decode b_R_audit 15 = .ok (.invokevirtual 81, 3) := by decide +kernel
theorem d_R_audit_18 : decode b_R_audit 18 = .ok (.invokestatic 133, 3) := by decide +kernel
theorem d_R_audit_21 : decode b_R_audit 21 = .ok (.istore_n 3, 1) := by decide +kernel
theorem d_R_audit_22 : decode b_R_audit 22 = .ok (.iload_n 1, 1) := by decide +kernel
theorem d_R_audit_23 : decode b_R_audit 23 = .ok (.iconst 1, 1) := by decide +kernel
theorem d_R_audit_24 : decode b_R_audit 24 = .ok (.invokestatic 139, 3) := by decide +kernel
theorem d_R_audit_27 : decode b_R_audit 27 = .ok (.istore 4, 2) := by decide +kernel
theorem d_R_audit_29 : decode b_R_audit 29 = .ok (.iload 4, 2) := by decide +kernel
theorem d_R_audit_31 : decode b_R_audit 31 = .ok (.iload_n 3, 1) := by decide +kernel
theorem d_R_audit_32 : decode b_R_audit 32 = .ok (.if_icmp .gt (31), 3) := by decide +kernel
theorem d_R_audit_35 : decode b_R_audit 35 = .ok (.aload_n 0, 1) := by decide +kernel
theorem d_R_audit_36 : decode b_R_audit 36 = .ok (.getfield 12, 3) := by decide +kernel
theorem d_R_audit_39 : decode b_R_audit 39 = .ok (.aload_n 0, 1) := by decide +kernel
theorem d_R_audit_40 : decode b_R_audit 40 = .ok (.getfield 26, 3) := by decide +kernel
theorem d_R_audit_43 : decode b_R_audit 43 = .ok (.iload 4, 2) := by decide +kernel
theorem d_R_audit_45 : decode b_R_audit 45 = .ok (.invokevirtual 142, 3) := by decide +kernel
theorem d_R_audit_48 : decode b_R_audit 48 = .ok (.invokevirtual 145, 3) := by decide +kernel
theorem d_R_audit_51 : decode b_R_audit 51 = .ok (.ifCond .eq (6), 3) := by decide +kernel
theorem d_R_audit_54 : decode b_R_audit 54 = .ok (.iload 4, 2) := by decide +kernel
theorem d_R_audit_56 : decode b_R_audit 56 = .ok (.ireturn, 1) := by decide +kernel
theorem d_R_audit_57 : decode b_R_audit 57 = .ok (.iinc 4 1, 3) := by decide +kernel
theorem d_R_audit_60 : decode b_R_audit 60 = .ok (.goto (-31), 3) := by decide +kernel
theorem d_R_audit_63 : decode b_R_audit 63 = .ok (.iconst 0, 1) := by decide +kernel
theorem d_R_audit_64 : decode b_R_audit 64 = .ok (.ireturn, 1) := by decide +kernel
theorem d_R_exportByte_0 : decode b_R_exportByte 0 = .ok (.aload_n 0, 1) := by decide +kernel
theorem d_R_exportByte_1 : decode b_R_exportByte 1 = .ok (.getfield 20, 3) := by decide +kernel
theorem d_R_exportByte_4 : decode b_R_exportByte 4 = .ok (.invokevirtual 56, 3) := by decide +kernel
theorem d_R_exportByte_7 : decode b_R_exportByte 7 = .ok (.invokestatic 62, 3) := by decide +kernel
theorem d_R_exportByte_10 : decode b_R_exportByte 10 = .ok (.iload_n 3, 1) := by decide +kernel
theorem d_R_exportByte_11 : decode b_R_exportByte 11 = .ok (.ifCond .ge (5), 3) := by decide +kernel
theorem d_R_exportByte_14 : decode b_R_exportByte 14 = .ok (.iconst (-1), 1) := by decide +kernel
theorem d_R_exportByte_15 : decode b_R_exportByte 15 = .ok (.ireturn, 1) := by decide +kernel
theorem d_R_exportByte_16 : decode b_R_exportByte 16 = .ok (.iload_n 2, 1) := by decide +kernel
theorem d_R_exportByte_17 : decode b_R_exportByte 17 = .ok (.aload_n 0, 1) := by decide +kernel
theorem d_R_exportByte_18 : decode b_R_exportByte 18 = .ok (.getfield 26, 3) := by decide +kernel
theorem d_R_exportByte_21 : decode b_R_exportByte 21 = .ok (.invokevirtual 81, 3) := by decide +kernel
theorem d_R_exportByte_24 : decode b_R_exportByte 24 = .ok (.invokestatic 133, 3) := by decide +kernel
theorem d_R_exportByte_27 : decode b_R_exportByte 27 = .ok (.istore 4, 2) := by decide +kernel
theorem d_R_exportByte_29 : decode b_R_exportByte 29 = .ok (.iload_n 3, 1) := by decide +kernel
theorem d_R_exportByte_30 : decode b_R_exportByte 30 = .ok (.istore 5, 2) := by decide +kernel
theorem d_R_exportByte_32 : decode b_R_exportByte 32 = .ok (.iload_n 1, 1) := by decide +kernel
theorem d_R_exportByte_33 : decode b_R_exportByte 33 = .ok (.iconst 1, 1) := by decide +kernel
theorem d_R_exportByte_34 : decode b_R_exportByte 34 = .ok (.invokestatic 139, 3) := by decide +kernel
theorem d_R_exportByte_37 : decode b_R_exportByte 37 = .ok (.istore 6, 2) := by decide +kernel
theorem d_R_exportByte_39 : decode b_R_exportByte 39 = .ok (.iload 6, 2) := by decide +kernel
theorem d_R_exportByte_41 : decode b_R_exportByte 41 = .ok (.iload 4, 2) := by decide +kernel
theorem d_R_exportByte_43 : decode b_R_exportByte 43 = .ok (.if_icmp .gt (56), 3) := by decide +kernel
theorem d_R_exportByte_46 : decode b_R_exportByte 46 = .ok (.aload_n 0, 1) := by decide +kernel
theorem d_R_exportByte_47 : decode b_R_exportByte 47 = .ok (.getfield 33, 3) := by decide +kernel
theorem d_R_exportByte_50 : decode b_R_exportByte 50 = .ok (.aload_n 0, 1) := by decide +kernel
theorem d_R_exportByte_51 : decode b_R_exportByte 51 = .ok (.getfield 26, 3) := by decide +kernel
theorem d_R_exportByte_54 : decode b_R_exportByte 54 = .ok (.iload 6, 2) := by decide +kernel
theorem d_R_exportByte_56 : decode b_R_exportByte 56 = .ok (.invokevirtual 148, 3) := by decide +kernel
theorem d_R_exportByte_59 : decode b_R_exportByte 59 = .ok (.iload 5, 2) := by decide +kernel
theorem d_R_exportByte_61 : decode b_R_exportByte 61 = .ok (.aload_n 0, 1) := by decide +kernel
theorem d_R_exportByte_62 : decode b_R_exportByte 62 = .ok (.getfield 33, 3) := by decide +kernel
theorem d_R_exportByte_65 : decode b_R_exportByte 65 = .ok (.invokevirtual 152, 3) := by decide +kernel
theorem d_R_exportByte_68 : decode b_R_exportByte 68 = .ok (.if_icmp .ge (13), 3) := by decide +kernel
theorem d_R_exportByte_71 : decode b_R_exportByte 71 = .ok (.aload_n 0, 1) := by decide +kernel
theorem d_R_exportByte_72 : decode b_R_exportByte 72 = .ok (.getfield 33, 3) := by decide +kernel
theorem d_R_exportByte_75 : decode b_R_exportByte 75 = .ok (.iload 5, 2) := by decide +kernel
theorem d_R_exportByte_77 : decode b_R_exportByte 77 = .ok (.invokevirtual 155, 3) := by decide +kernel
theorem d_R_exportByte_80 : decode b_R_exportByte 80 = .ok (.ireturn, 1) := by decide +kernel
theorem d_R_exportByte_81 : decode b_R_exportByte 81 = .ok (.iload 5, 2) := by decide +kernel
theorem d_R_exportByte_83 : decode b_R_exportByte 83 = .ok (.aload_n 0, 1) := by decide +kernel
theorem d_R_exportByte_84 : decode b_R_exportByte 84 = .ok (.getfield 33, 3) := by decide +kernel
theorem d_R_exportByte_87 : decode b_R_exportByte 87 = .ok (.invokevirtual 152, 3) := by decide +kernel
theorem d_R_exportByte_90 : decode b_R_exportByte 90 = .ok (.isub, 1) := by decide +kernel
theorem d_R_exportByte_91 : decode b_R_exportByte 91 = .ok (.istore 5, 2) := by decide +kernel
theorem d_R_exportByte_93 : decode b_R_exportByte 93 = .ok (.iinc 6 1, 3) := by decide +kernel
theorem d_R_exportByte_96 : decode b_R_exportByte 96 = .ok (.goto (-57), 3) := by decide +kernel
theorem d_R_exportByte_99 : decode b_R_exportByte 99 = .ok (.iconst (-1), 1) := by decide +kernel
theorem d_R_exportByte_100 : decode b_R_exportByte 100 = .ok (.ireturn, 1) := by decide +kernel
theorem d_R_setProduct_0 : decode b_R_setProduct 0 = .ok (.iload_n 1, 1) := by decide +kernel
theorem d_R_setProduct_1 : decode b_R_setProduct 1 = .ok (.invokestatic 66, 3) := by decide +kernel
theorem d_R_setProduct_4 : decode b_R_setProduct 4 = .ok (.invokestatic 52, 3) := by decide +kernel
theorem d_R_setProduct_7 : decode b_R_setProduct 7 = .ok (.aload_n 0, 1) := by decide +kernel
theorem d_R_setProduct_8 : decode b_R_setProduct 8 = .ok (.getfield 37, 3) := by decide +kernel
theorem d_R_setProduct_11 : decode b_R_setProduct 11 = .ok (.iload_n 1, 1) := by decide +kernel
theorem d_R_setProduct_12 : decode b_R_setProduct 12 = .ok (.iload_n 2, 1) := by decide +kernel
theorem d_R_setProduct_13 : decode b_R_setProduct 13 = .ok (.bastore, 1) := by decide +kernel
theorem d_R_setProduct_14 : decode b_R_setProduct 14 = .ok (.return_, 1) := by decide +kernel
theorem d_R_cutAfter_0 : decode b_R_cutAfter 0 = .ok (.iload_n 1, 1) := by decide +kernel
theorem d_R_cutAfter_1 : decode b_R_cutAfter 1 = .ok (.iconst 0, 1) := by decide +kernel
theorem d_R_cutAfter_2 : decode b_R_cutAfter 2 = .ok (.sipush 300, 3) := by decide +kernel
theorem d_R_cutAfter_5 : decode b_R_cutAfter 5 = .ok (.invokestatic 48, 3) := by decide +kernel
theorem d_R_cutAfter_8 : decode b_R_cutAfter 8 = .ok (.invokestatic 52, 3) := by decide +kernel
theorem d_R_cutAfter_11 : decode b_R_cutAfter 11 = .ok (.aload_n 0, 1) := by decide +kernel
theorem d_R_cutAfter_12 : decode b_R_cutAfter 12 = .ok (.getfield 20, 3) := by decide +kernel
theorem d_R_cutAfter_15 : decode b_R_cutAfter 15 = .ok (.iload_n 1, 1) := by decide +kernel
theorem d_R_cutAfter_16 : decode b_R_cutAfter 16 = .ok (.invokevirtual 158, 3) := by decide +kernel
theorem d_R_cutAfter_19 : decode b_R_cutAfter 19 = .ok (.return_, 1) := by decide +kernel
theorem d_R_wearOf_0 : decode b_R_wearOf 0 = .ok (.iload_n 1, 1) := by decide +kernel
theorem d_R_wearOf_1 : decode b_R_wearOf 1 = .ok (.iconst 0, 1) := by decide +kernel
theorem d_R_wearOf_2 : decode b_R_wearOf 2 = .ok (.bipush 7, 2) := by decide +kernel
theorem d_R_wearOf_4 : decode b_R_wearOf 4 = .ok (.invokestatic 48, 3) := by decide +kernel
theorem d_R_wearOf_7 : decode b_R_wearOf 7 = .ok (.invokestatic 52, 3) := by decide +kernel
theorem d_R_wearOf_10 : decode b_R_wearOf 10 = .ok (.aload_n 0, 1) := by decide +kernel
theorem d_R_wearOf_11 : decode b_R_wearOf 11 = .ok (.getfield 20, 3) := by decide +kernel
theorem d_R_wearOf_14 : decode b_R_wearOf 14 = .ok (.iload_n 1, 1) := by decide +kernel
theorem d_R_wearOf_15 : decode b_R_wearOf 15 = .ok (.invokevirtual 172, 3) := by decide +kernel
theorem d_R_wearOf_18 : decode b_R_wearOf 18 = .ok (.ireturn, 1) := by decide +kernel
theorem d_R_failBlock_0 : decode b_R_failBlock 0 = .ok (.iload_n 1, 1) := by decide +kernel
theorem d_R_failBlock_1 : decode b_R_failBlock 1 = .ok (.iconst 0, 1) := by decide +kernel
theorem d_R_failBlock_2 : decode b_R_failBlock 2 = .ok (.bipush 7, 2) := by decide +kernel
theorem d_R_failBlock_4 : decode b_R_failBlock 4 = .ok (.invokestatic 48, 3) := by decide +kernel
theorem d_R_failBlock_7 : decode b_R_failBlock 7 = .ok (.invokestatic 52, 3) := by decide +kernel
theorem d_R_failBlock_10 : decode b_R_failBlock 10 = .ok (.aload_n 0, 1) := by decide +kernel
theorem d_R_failBlock_11 : decode b_R_failBlock 11 = .ok (.getfield 20, 3) := by decide +kernel
theorem d_R_failBlock_14 : decode b_R_failBlock 14 = .ok (.iload_n 1, 1) := by decide +kernel
theorem d_R_failBlock_15 : decode b_R_failBlock 15 = .ok (.invokevirtual 175, 3) := by decide +kernel
theorem d_R_failBlock_18 : decode b_R_failBlock 18 = .ok (.return_, 1) := by decide +kernel
theorem d_R_poke_0 : decode b_R_poke 0 = .ok (.iload_n 1, 1) := by decide +kernel
theorem d_R_poke_1 : decode b_R_poke 1 = .ok (.iload_n 2, 1) := by decide +kernel
theorem d_R_poke_2 : decode b_R_poke 2 = .ok (.invokestatic 178, 3) := by decide +kernel
theorem d_R_poke_5 : decode b_R_poke 5 = .ok (.invokestatic 52, 3) := by decide +kernel
theorem d_R_poke_8 : decode b_R_poke 8 = .ok (.aload_n 0, 1) := by decide +kernel
theorem d_R_poke_9 : decode b_R_poke 9 = .ok (.getfield 20, 3) := by decide +kernel
theorem d_R_poke_12 : decode b_R_poke 12 = .ok (.iload_n 1, 1) := by decide +kernel
theorem d_R_poke_13 : decode b_R_poke 13 = .ok (.iload_n 2, 1) := by decide +kernel
theorem d_R_poke_14 : decode b_R_poke 14 = .ok (.iload_n 3, 1) := by decide +kernel
theorem d_R_poke_15 : decode b_R_poke 15 = .ok (.invokevirtual 182, 3) := by decide +kernel
theorem d_R_poke_18 : decode b_R_poke 18 = .ok (.return_, 1) := by decide +kernel
theorem d_R_word_0 : decode b_R_word 0 = .ok (.iload_n 1, 1) := by decide +kernel
theorem d_R_word_1 : decode b_R_word 1 = .ok (.iload_n 2, 1) := by decide +kernel
theorem d_R_word_2 : decode b_R_word 2 = .ok (.invokestatic 178, 3) := by decide +kernel
theorem d_R_word_5 : decode b_R_word 5 = .ok (.invokestatic 105, 3) := by decide +kernel
theorem d_R_word_8 : decode b_R_word 8 = .ok (.aload_n 0, 1) := by decide +kernel
theorem d_R_word_9 : decode b_R_word 9 = .ok (.getfield 20, 3) := by decide +kernel
theorem d_R_word_12 : decode b_R_word 12 = .ok (.iload_n 1, 1) := by decide +kernel
theorem d_R_word_13 : decode b_R_word 13 = .ok (.iload_n 2, 1) := by decide +kernel
theorem d_R_word_14 : decode b_R_word 14 = .ok (.invokevirtual 186, 3) := by decide +kernel
theorem d_R_word_17 : decode b_R_word 17 = .ok (.ireturn, 1) := by decide +kernel
theorem d_R_state_0 : decode b_R_state 0 = .ok (.aload_n 0, 1) := by decide +kernel
theorem d_R_state_1 : decode b_R_state 1 = .ok (.getfield 20, 3) := by decide +kernel
theorem d_R_state_4 : decode b_R_state 4 = .ok (.invokevirtual 56, 3) := by decide +kernel
theorem d_R_state_7 : decode b_R_state 7 = .ok (.istore_n 2, 1) := by decide +kernel
theorem d_R_state_8 : decode b_R_state 8 = .ok (.iload_n 1, 1) := by decide +kernel
theorem d_R_state_9 : decode b_R_state 9 = .ok (.tableswitch 178 0 8 #[51, 67, 83, 99, 115, 128, 144, 160, 168], 51) := by decide +kernel
theorem d_R_state_60 : decode b_R_state 60 = .ok (.iload_n 2, 1) := by decide +kernel
theorem d_R_state_61 : decode b_R_state 61 = .ok (.ifCond .eq (13), 3) := by decide +kernel
theorem d_R_state_64 : decode b_R_state 64 = .ok (.aload_n 0, 1) := by decide +kernel
theorem d_R_state_65 : decode b_R_state 65 = .ok (.getfield 26, 3) := by decide +kernel
theorem d_R_state_68 : decode b_R_state 68 = .ok (.invokevirtual 95, 3) := by decide +kernel
theorem d_R_state_71 : decode b_R_state 71 = .ok (.goto (4), 3) := by decide +kernel
theorem d_R_state_74 : decode b_R_state 74 = .ok (.iconst 0, 1) := by decide +kernel
theorem d_R_state_75 : decode b_R_state 75 = .ok (.ireturn, 1) := by decide +kernel
theorem d_R_state_76 : decode b_R_state 76 = .ok (.iload_n 2, 1) := by decide +kernel
theorem d_R_state_77 : decode b_R_state 77 = .ok (.ifCond .eq (13), 3) := by decide +kernel
theorem d_R_state_80 : decode b_R_state 80 = .ok (.aload_n 0, 1) := by decide +kernel
theorem d_R_state_81 : decode b_R_state 81 = .ok (.getfield 12, 3) := by decide +kernel
theorem d_R_state_84 : decode b_R_state 84 = .ok (.invokevirtual 92, 3) := by decide +kernel
theorem d_R_state_87 : decode b_R_state 87 = .ok (.goto (4), 3) := by decide +kernel
theorem d_R_state_90 : decode b_R_state 90 = .ok (.iconst 0, 1) := by decide +kernel
theorem d_R_state_91 : decode b_R_state 91 = .ok (.ireturn, 1) := by decide +kernel
theorem d_R_state_92 : decode b_R_state 92 = .ok (.iload_n 2, 1) := by decide +kernel
theorem d_R_state_93 : decode b_R_state 93 = .ok (.ifCond .eq (13), 3) := by decide +kernel
theorem d_R_state_96 : decode b_R_state 96 = .ok (.aload_n 0, 1) := by decide +kernel
theorem d_R_state_97 : decode b_R_state 97 = .ok (.getfield 26, 3) := by decide +kernel
theorem d_R_state_100 : decode b_R_state 100 = .ok (.invokevirtual 81, 3) := by decide +kernel
theorem d_R_state_103 : decode b_R_state 103 = .ok (.goto (4), 3) := by decide +kernel
theorem d_R_state_106 : decode b_R_state 106 = .ok (.iconst 0, 1) := by decide +kernel
theorem d_R_state_107 : decode b_R_state 107 = .ok (.ireturn, 1) := by decide +kernel
theorem d_R_state_108 : decode b_R_state 108 = .ok (.iload_n 2, 1) := by decide +kernel
theorem d_R_state_109 : decode b_R_state 109 = .ok (.ifCond .eq (13), 3) := by decide +kernel
theorem d_R_state_112 : decode b_R_state 112 = .ok (.aload_n 0, 1) := by decide +kernel
theorem d_R_state_113 : decode b_R_state 113 = .ok (.getfield 12, 3) := by decide +kernel
theorem d_R_state_116 : decode b_R_state 116 = .ok (.invokevirtual 189, 3) := by decide +kernel
theorem d_R_state_119 : decode b_R_state 119 = .ok (.goto (4), 3) := by decide +kernel
theorem d_R_state_122 : decode b_R_state 122 = .ok (.iconst 0, 1) := by decide +kernel
theorem d_R_state_123 : decode b_R_state 123 = .ok (.ireturn, 1) := by decide +kernel
theorem d_R_state_124 : decode b_R_state 124 = .ok (.iload_n 2, 1) := by decide +kernel
theorem d_R_state_125 : decode b_R_state 125 = .ok (.ifCond .eq (10), 3) := by decide +kernel
theorem d_R_state_128 : decode b_R_state 128 = .ok (.aload_n 0, 1) := by decide +kernel
theorem d_R_state_129 : decode b_R_state 129 = .ok (.getfield 41, 3) := by decide +kernel
theorem d_R_state_132 : decode b_R_state 132 = .ok (.goto (4), 3) := by decide +kernel
theorem d_R_state_135 : decode b_R_state 135 = .ok (.iconst 0, 1) := by decide +kernel
theorem d_R_state_136 : decode b_R_state 136 = .ok (.ireturn, 1) := by decide +kernel
theorem d_R_state_137 : decode b_R_state 137 = .ok (.iload_n 2, 1) := by decide +kernel
theorem d_R_state_138 : decode b_R_state 138 = .ok (.ifCond .eq (13), 3) := by decide +kernel
theorem d_R_state_141 : decode b_R_state 141 = .ok (.aload_n 0, 1) := by decide +kernel
theorem d_R_state_142 : decode b_R_state 142 = .ok (.getfield 12, 3) := by decide +kernel
theorem d_R_state_145 : decode b_R_state 145 = .ok (.invokevirtual 192, 3) := by decide +kernel
theorem d_R_state_148 : decode b_R_state 148 = .ok (.goto (4), 3) := by decide +kernel
theorem d_R_state_151 : decode b_R_state 151 = .ok (.iconst 0, 1) := by decide +kernel
theorem d_R_state_152 : decode b_R_state 152 = .ok (.ireturn, 1) := by decide +kernel
theorem d_R_state_153 : decode b_R_state 153 = .ok (.iload_n 2, 1) := by decide +kernel
theorem d_R_state_154 : decode b_R_state 154 = .ok (.ifCond .eq (13), 3) := by decide +kernel
theorem d_R_state_157 : decode b_R_state 157 = .ok (.aload_n 0, 1) := by decide +kernel
theorem d_R_state_158 : decode b_R_state 158 = .ok (.getfield 12, 3) := by decide +kernel
theorem d_R_state_161 : decode b_R_state 161 = .ok (.invokevirtual 195, 3) := by decide +kernel
theorem d_R_state_164 : decode b_R_state 164 = .ok (.goto (4), 3) := by decide +kernel
theorem d_R_state_167 : decode b_R_state 167 = .ok (.iconst (-1), 1) := by decide +kernel
theorem d_R_state_168 : decode b_R_state 168 = .ok (.ireturn, 1) := by decide +kernel
theorem d_R_state_169 : decode b_R_state 169 = .ok (.aload_n 0, 1) := by decide +kernel
theorem d_R_state_170 : decode b_R_state 170 = .ok (.getfield 20, 3) := by decide +kernel
theorem d_R_state_173 : decode b_R_state 173 = .ok (.invokevirtual 198, 3) := by decide +kernel
theorem d_R_state_176 : decode b_R_state 176 = .ok (.ireturn, 1) := by decide +kernel
theorem d_R_state_177 : decode b_R_state 177 = .ok (.iload_n 2, 1) := by decide +kernel
theorem d_R_state_178 : decode b_R_state 178 = .ok (.ifCond .eq (7), 3) := by decide +kernel
theorem d_R_state_181 : decode b_R_state 181 = .ok (.iconst 1, 1) := by decide +kernel
theorem d_R_state_182 : decode b_R_state 182 = .ok (.goto (4), 3) := by decide +kernel
theorem d_R_state_185 : decode b_R_state 185 = .ok (.iconst 0, 1) := by decide +kernel
theorem d_R_state_186 : decode b_R_state 186 = .ok (.ireturn, 1) := by decide +kernel
theorem d_R_state_187 : decode b_R_state 187 = .ok (.iconst (-1), 1) := by decide +kernel
theorem d_R_state_188 : decode b_R_state 188 = .ok (.ireturn, 1) := by decide +kernel
theorem d_R_ticket_0 : decode b_R_ticket 0 = .ok (.aload_n 0, 1) := by decide +kernel
theorem d_R_ticket_1 : decode b_R_ticket 1 = .ok (.getfield 20, 3) := by decide +kernel
theorem d_R_ticket_4 : decode b_R_ticket 4 = .ok (.invokevirtual 56, 3) := by decide +kernel
theorem d_R_ticket_7 : decode b_R_ticket 7 = .ok (.invokestatic 62, 3) := by decide +kernel
theorem d_R_ticket_10 : decode b_R_ticket 10 = .ok (.aload_n 0, 1) := by decide +kernel
theorem d_R_ticket_11 : decode b_R_ticket 11 = .ok (.getfield 26, 3) := by decide +kernel
theorem d_R_ticket_14 : decode b_R_ticket 14 = .ok (.iload_n 1, 1) := by decide +kernel
theorem d_R_ticket_15 : decode b_R_ticket 15 = .ok (.invokevirtual 85, 3) := by decide +kernel
theorem d_R_ticket_18 : decode b_R_ticket 18 = .ok (.ifCond .eq (17), 3) := by decide +kernel
theorem d_R_ticket_21 : decode b_R_ticket 21 = .ok (.iload_n 2, 1) := by decide +kernel
theorem d_R_ticket_22 : decode b_R_ticket 22 = .ok (.iconst 0, 1) := by decide +kernel
theorem d_R_ticket_23 : decode b_R_ticket 23 = .ok (.bipush 6, 2) := by decide +kernel
theorem d_R_ticket_25 : decode b_R_ticket 25 = .ok (.invokestatic 48, 3) := by decide +kernel
theorem d_R_ticket_28 : decode b_R_ticket 28 = .ok (.ifCond .eq (7), 3) := by decide +kernel
theorem d_R_ticket_31 : decode b_R_ticket 31 = .ok (.iconst 1, 1) := by decide +kernel
theorem d_R_ticket_32 : decode b_R_ticket 32 = .ok (.goto (4), 3) := by decide +kernel
theorem d_R_ticket_35 : decode b_R_ticket 35 = .ok (.iconst 0, 1) := by decide +kernel
theorem d_R_ticket_36 : decode b_R_ticket 36 = .ok (.invokestatic 105, 3) := by decide +kernel
theorem d_R_ticket_39 : decode b_R_ticket 39 = .ok (.iload_n 2, 1) := by decide +kernel
theorem d_R_ticket_40 : decode b_R_ticket 40 = .ok (.tableswitch 94 0 5 #[40, 49, 58, 67, 76, 85], 40) := by decide +kernel
theorem d_R_ticket_80 : decode b_R_ticket 80 = .ok (.aload_n 0, 1) := by decide +kernel
theorem d_R_ticket_81 : decode b_R_ticket 81 = .ok (.getfield 26, 3) := by decide +kernel
theorem d_R_ticket_84 : decode b_R_ticket 84 = .ok (.iload_n 1, 1) := by decide +kernel
theorem d_R_ticket_85 : decode b_R_ticket 85 = .ok (.invokevirtual 108, 3) := by decide +kernel
theorem d_R_ticket_88 : decode b_R_ticket 88 = .ok (.ireturn, 1) := by decide +kernel
theorem d_R_ticket_89 : decode b_R_ticket 89 = .ok (.aload_n 0, 1) := by decide +kernel
theorem d_R_ticket_90 : decode b_R_ticket 90 = .ok (.getfield 26, 3) := by decide +kernel
theorem d_R_ticket_93 : decode b_R_ticket 93 = .ok (.iload_n 1, 1) := by decide +kernel
theorem d_R_ticket_94 : decode b_R_ticket 94 = .ok (.invokevirtual 112, 3) := by decide +kernel
theorem d_R_ticket_97 : decode b_R_ticket 97 = .ok (.ireturn, 1) := by decide +kernel
theorem d_R_ticket_98 : decode b_R_ticket 98 = .ok (.aload_n 0, 1) := by decide +kernel
theorem d_R_ticket_99 : decode b_R_ticket 99 = .ok (.getfield 26, 3) := by decide +kernel
theorem d_R_ticket_102 : decode b_R_ticket 102 = .ok (.iload_n 1, 1) := by decide +kernel
theorem d_R_ticket_103 : decode b_R_ticket 103 = .ok (.invokevirtual 115, 3) := by decide +kernel
theorem d_R_ticket_106 : decode b_R_ticket 106 = .ok (.ireturn, 1) := by decide +kernel
theorem d_R_ticket_107 : decode b_R_ticket 107 = .ok (.aload_n 0, 1) := by decide +kernel
theorem d_R_ticket_108 : decode b_R_ticket 108 = .ok (.getfield 26, 3) := by decide +kernel
theorem d_R_ticket_111 : decode b_R_ticket 111 = .ok (.iload_n 1, 1) := by decide +kernel
theorem d_R_ticket_112 : decode b_R_ticket 112 = .ok (.invokevirtual 118, 3) := by decide +kernel
theorem d_R_ticket_115 : decode b_R_ticket 115 = .ok (.ireturn, 1) := by decide +kernel
theorem d_R_ticket_116 : decode b_R_ticket 116 = .ok (.aload_n 0, 1) := by decide +kernel
theorem d_R_ticket_117 : decode b_R_ticket 117 = .ok (.getfield 26, 3) := by decide +kernel
theorem d_R_ticket_120 : decode b_R_ticket 120 = .ok (.iload_n 1, 1) := by decide +kernel
theorem d_R_ticket_121 : decode b_R_ticket 121 = .ok (.invokevirtual 121, 3) := by decide +kernel
theorem d_R_ticket_124 : decode b_R_ticket 124 = .ok (.ireturn, 1) := by decide +kernel
theorem d_R_ticket_125 : decode b_R_ticket 125 = .ok (.aload_n 0, 1) := by decide +kernel
theorem d_R_ticket_126 : decode b_R_ticket 126 = .ok (.getfield 26, 3) := by decide +kernel
theorem d_R_ticket_129 : decode b_R_ticket 129 = .ok (.iload_n 1, 1) := by decide +kernel
theorem d_R_ticket_130 : decode b_R_ticket 130 = .ok (.invokevirtual 124, 3) := by decide +kernel
theorem d_R_ticket_133 : decode b_R_ticket 133 = .ok (.ireturn, 1) := by decide +kernel
theorem d_R_ticket_134 : decode b_R_ticket 134 = .ok (.aload_n 0, 1) := by decide +kernel
theorem d_R_ticket_135 : decode b_R_ticket 135 = .ok (.getfield 26, 3) := by decide +kernel
theorem d_R_ticket_138 : decode b_R_ticket 138 = .ok (.iload_n 1, 1) := by decide +kernel
theorem d_R_ticket_139 : decode b_R_ticket 139 = .ok (.invokevirtual 127, 3) := by decide +kernel
theorem d_R_ticket_142 : decode b_R_ticket 142 = .ok (.ireturn, 1) := by decide +kernel
theorem d_L_axle_0 : decode b_L_axle 0 = .ok (.aload_n 2, 1) := by decide +kernel
theorem d_L_axle_1 : decode b_L_axle 1 = .ok (.iconst 0, 1) := by decide +kernel
theorem d_L_axle_2 : decode b_L_axle 2 = .ok (.aload_n 0, 1) := by decide +kernel
theorem d_L_axle_3 : decode b_L_axle 3 = .ok (.iload_n 1, 1) := by decide +kernel
theorem d_L_axle_4 : decode b_L_axle 4 = .ok (.invokevirtual 7, 3) := by decide +kernel
theorem d_L_axle_7 : decode b_L_axle 7 = .ok (.i2l, 1) := by decide +kernel
theorem d_L_axle_8 : decode b_L_axle 8 = .ok (.lastore, 1) := by decide +kernel
theorem d_L_axle_9 : decode b_L_axle 9 = .ok (.goto (9), 3) := by decide +kernel
theorem d_L_axle_12 : decode b_L_axle 12 = .ok (.astore_n 3, 1) := by decide +kernel
theorem d_L_axle_13 : decode b_L_axle 13 = .ok (.iconst 1, 1) := by decide +kernel
theorem d_L_axle_14 : decode b_L_axle 14 = .ok (.ireturn, 1) := by decide +kernel
theorem d_L_axle_15 : decode b_L_axle 15 = .ok (.astore_n 3, 1) := by decide +kernel
theorem d_L_axle_16 : decode b_L_axle 16 = .ok (.iconst 2, 1) := by decide +kernel
theorem d_L_axle_17 : decode b_L_axle 17 = .ok (.ireturn, 1) := by decide +kernel
theorem d_L_axle_18 : decode b_L_axle 18 = .ok (.iconst 0, 1) := by decide +kernel
theorem d_L_axle_19 : decode b_L_axle 19 = .ok (.ireturn, 1) := by decide +kernel
theorem d_L_close_0 : decode b_L_close 0 = .ok (.aload 5, 2) := by decide +kernel
theorem d_L_close_2 : decode b_L_close 2 = .ok (.iconst 0, 1) := by decide +kernel
theorem d_L_close_3 : decode b_L_close 3 = .ok (.aload_n 0, 1) := by decide +kernel
theorem d_L_close_4 : decode b_L_close 4 = .ok (.iload_n 1, 1) := by decide +kernel
theorem d_L_close_5 : decode b_L_close 5 = .ok (.iload_n 2, 1) := by decide +kernel
theorem d_L_close_6 : decode b_L_close 6 = .ok (.iload_n 3, 1) := by decide +kernel
theorem d_L_close_7 : decode b_L_close 7 = .ok (.iload 4, 2) := by decide +kernel
theorem d_L_close_9 : decode b_L_close 9 = .ok (.invokevirtual 17, 3) := by decide +kernel
theorem d_L_close_12 : decode b_L_close 12 = .ok (.i2l, 1) := by decide +kernel
theorem d_L_close_13 : decode b_L_close 13 = .ok (.lastore, 1) := by decide +kernel
theorem d_L_close_14 : decode b_L_close 14 = .ok (.goto (11), 3) := by decide +kernel
theorem d_L_close_17 : decode b_L_close 17 = .ok (.astore 6, 2) := by decide +kernel
theorem d_L_close_19 : decode b_L_close 19 = .ok (.iconst 1, 1) := by decide +kernel
theorem d_L_close_20 : decode b_L_close 20 = .ok (.ireturn, 1) := by decide +kernel
theorem d_L_close_21 : decode b_L_close 21 = .ok (.astore 6, 2) := by decide +kernel
theorem d_L_close_23 : decode b_L_close 23 = .ok (.iconst 2, 1) := by decide +kernel
theorem d_L_close_24 : decode b_L_close 24 = .ok (.ireturn, 1) := by decide +kernel
theorem d_L_close_25 : decode b_L_close 25 = .ok (.iconst 0, 1) := by decide +kernel
theorem d_L_close_26 : decode b_L_close 26 = .ok (.ireturn, 1) := by decide +kernel
theorem d_L_annul_0 : decode b_L_annul 0 = .ok (.aload_n 3, 1) := by decide +kernel
theorem d_L_annul_1 : decode b_L_annul 1 = .ok (.iconst 0, 1) := by decide +kernel
theorem d_L_annul_2 : decode b_L_annul 2 = .ok (.aload_n 0, 1) := by decide +kernel
theorem d_L_annul_3 : decode b_L_annul 3 = .ok (.iload_n 1, 1) := by decide +kernel
theorem d_L_annul_4 : decode b_L_annul 4 = .ok (.iload_n 2, 1) := by decide +kernel
theorem d_L_annul_5 : decode b_L_annul 5 = .ok (.invokevirtual 21, 3) := by decide +kernel
theorem d_L_annul_8 : decode b_L_annul 8 = .ok (.i2l, 1) := by decide +kernel
theorem d_L_annul_9 : decode b_L_annul 9 = .ok (.lastore, 1) := by decide +kernel
theorem d_L_annul_10 : decode b_L_annul 10 = .ok (.goto (11), 3) := by decide +kernel
theorem d_L_annul_13 : decode b_L_annul 13 = .ok (.astore 4, 2) := by decide +kernel
theorem d_L_annul_15 : decode b_L_annul 15 = .ok (.iconst 1, 1) := by decide +kernel
theorem d_L_annul_16 : decode b_L_annul 16 = .ok (.ireturn, 1) := by decide +kernel
theorem d_L_annul_17 : decode b_L_annul 17 = .ok (.astore 4, 2) := by decide +kernel
theorem d_L_annul_19 : decode b_L_annul 19 = .ok (.iconst 2, 1) := by decide +kernel
theorem d_L_annul_20 : decode b_L_annul 20 = .ok (.ireturn, 1) := by decide +kernel
theorem d_L_annul_21 : decode b_L_annul 21 = .ok (.iconst 0, 1) := by decide +kernel
theorem d_L_annul_22 : decode b_L_annul 22 = .ok (.ireturn, 1) := by decide +kernel
theorem d_L_sync_0 : decode b_L_sync 0 = .ok (.aload_n 1, 1) := by decide +kernel
theorem d_L_sync_1 : decode b_L_sync 1 = .ok (.iconst 0, 1) := by decide +kernel
theorem d_L_sync_2 : decode b_L_sync 2 = .ok (.aload_n 0, 1) := by decide +kernel
theorem d_L_sync_3 : decode b_L_sync 3 = .ok (.invokevirtual 25, 3) := by decide +kernel
theorem d_L_sync_6 : decode b_L_sync 6 = .ok (.i2l, 1) := by decide +kernel
theorem d_L_sync_7 : decode b_L_sync 7 = .ok (.lastore, 1) := by decide +kernel
theorem d_L_sync_8 : decode b_L_sync 8 = .ok (.goto (6), 3) := by decide +kernel
theorem d_L_sync_11 : decode b_L_sync 11 = .ok (.astore_n 2, 1) := by decide +kernel
theorem d_L_sync_12 : decode b_L_sync 12 = .ok (.iconst 1, 1) := by decide +kernel
theorem d_L_sync_13 : decode b_L_sync 13 = .ok (.ireturn, 1) := by decide +kernel
theorem d_L_sync_14 : decode b_L_sync 14 = .ok (.iconst 0, 1) := by decide +kernel
theorem d_L_sync_15 : decode b_L_sync 15 = .ok (.ireturn, 1) := by decide +kernel
theorem d_L_dayTotal_0 : decode b_L_dayTotal 0 = .ok (.aload_n 3, 1) := by decide +kernel
theorem d_L_dayTotal_1 : decode b_L_dayTotal 1 = .ok (.iconst 0, 1) := by decide +kernel
theorem d_L_dayTotal_2 : decode b_L_dayTotal 2 = .ok (.aload_n 0, 1) := by decide +kernel
theorem d_L_dayTotal_3 : decode b_L_dayTotal 3 = .ok (.iload_n 1, 1) := by decide +kernel
theorem d_L_dayTotal_4 : decode b_L_dayTotal 4 = .ok (.iload_n 2, 1) := by decide +kernel
theorem d_L_dayTotal_5 : decode b_L_dayTotal 5 = .ok (.invokevirtual 34, 3) := by decide +kernel
theorem d_L_dayTotal_8 : decode b_L_dayTotal 8 = .ok (.lastore, 1) := by decide +kernel
theorem d_L_dayTotal_9 : decode b_L_dayTotal 9 = .ok (.goto (7), 3) := by decide +kernel
theorem d_L_dayTotal_12 : decode b_L_dayTotal 12 = .ok (.astore 4, 2) := by decide +kernel
theorem d_L_dayTotal_14 : decode b_L_dayTotal 14 = .ok (.iconst 1, 1) := by decide +kernel
theorem d_L_dayTotal_15 : decode b_L_dayTotal 15 = .ok (.ireturn, 1) := by decide +kernel
theorem d_L_dayTotal_16 : decode b_L_dayTotal 16 = .ok (.iconst 0, 1) := by decide +kernel
theorem d_L_dayTotal_17 : decode b_L_dayTotal 17 = .ok (.ireturn, 1) := by decide +kernel
theorem d_L_rangeTotal_0 : decode b_L_rangeTotal 0 = .ok (.aload_n 3, 1) := by decide +kernel
theorem d_L_rangeTotal_1 : decode b_L_rangeTotal 1 = .ok (.iconst 0, 1) := by decide +kernel
theorem d_L_rangeTotal_2 : decode b_L_rangeTotal 2 = .ok (.aload_n 0, 1) := by decide +kernel
theorem d_L_rangeTotal_3 : decode b_L_rangeTotal 3 = .ok (.iload_n 1, 1) := by decide +kernel
theorem d_L_rangeTotal_4 : decode b_L_rangeTotal 4 = .ok (.iload_n 2, 1) := by decide +kernel
theorem d_L_rangeTotal_5 : decode b_L_rangeTotal 5 = .ok (.invokevirtual 38, 3) := by decide +kernel
theorem d_L_rangeTotal_8 : decode b_L_rangeTotal 8 = .ok (.lastore, 1) := by decide +kernel
theorem d_L_rangeTotal_9 : decode b_L_rangeTotal 9 = .ok (.goto (7), 3) := by decide +kernel
theorem d_L_rangeTotal_12 : decode b_L_rangeTotal 12 = .ok (.astore 4, 2) := by decide +kernel
theorem d_L_rangeTotal_14 : decode b_L_rangeTotal 14 = .ok (.iconst 1, 1) := by decide +kernel
theorem d_L_rangeTotal_15 : decode b_L_rangeTotal 15 = .ok (.ireturn, 1) := by decide +kernel
theorem d_L_rangeTotal_16 : decode b_L_rangeTotal 16 = .ok (.iconst 0, 1) := by decide +kernel
theorem d_L_rangeTotal_17 : decode b_L_rangeTotal 17 = .ok (.ireturn, 1) := by decide +kernel
theorem d_L_find_0 : decode b_L_find 0 = .ok (.aload_n 3, 1) := by decide +kernel
theorem d_L_find_1 : decode b_L_find 1 = .ok (.iconst 0, 1) := by decide +kernel
theorem d_L_find_2 : decode b_L_find 2 = .ok (.aload_n 0, 1) := by decide +kernel
theorem d_L_find_3 : decode b_L_find 3 = .ok (.iload_n 1, 1) := by decide +kernel
theorem d_L_find_4 : decode b_L_find 4 = .ok (.iload_n 2, 1) := by decide +kernel
theorem d_L_find_5 : decode b_L_find 5 = .ok (.invokevirtual 41, 3) := by decide +kernel
theorem d_L_find_8 : decode b_L_find 8 = .ok (.i2l, 1) := by decide +kernel
theorem d_L_find_9 : decode b_L_find 9 = .ok (.lastore, 1) := by decide +kernel
theorem d_L_find_10 : decode b_L_find 10 = .ok (.goto (7), 3) := by decide +kernel
theorem d_L_find_13 : decode b_L_find 13 = .ok (.astore 4, 2) := by decide +kernel
theorem d_L_find_15 : decode b_L_find 15 = .ok (.iconst 1, 1) := by decide +kernel
theorem d_L_find_16 : decode b_L_find 16 = .ok (.ireturn, 1) := by decide +kernel
theorem d_L_find_17 : decode b_L_find 17 = .ok (.iconst 0, 1) := by decide +kernel
theorem d_L_find_18 : decode b_L_find 18 = .ok (.ireturn, 1) := by decide +kernel
theorem d_L_audit_0 : decode b_L_audit 0 = .ok (.aload_n 3, 1) := by decide +kernel
theorem d_L_audit_1 : decode b_L_audit 1 = .ok (.iconst 0, 1) := by decide +kernel
theorem d_L_audit_2 : decode b_L_audit 2 = .ok (.aload_n 0, 1) := by decide +kernel
theorem d_L_audit_3 : decode b_L_audit 3 = .ok (.iload_n 1, 1) := by decide +kernel
theorem d_L_audit_4 : decode b_L_audit 4 = .ok (.iload_n 2, 1) := by decide +kernel
theorem d_L_audit_5 : decode b_L_audit 5 = .ok (.invokevirtual 44, 3) := by decide +kernel
theorem d_L_audit_8 : decode b_L_audit 8 = .ok (.i2l, 1) := by decide +kernel
theorem d_L_audit_9 : decode b_L_audit 9 = .ok (.lastore, 1) := by decide +kernel
theorem d_L_audit_10 : decode b_L_audit 10 = .ok (.goto (7), 3) := by decide +kernel
theorem d_L_audit_13 : decode b_L_audit 13 = .ok (.astore 4, 2) := by decide +kernel
theorem d_L_audit_15 : decode b_L_audit 15 = .ok (.iconst 1, 1) := by decide +kernel
theorem d_L_audit_16 : decode b_L_audit 16 = .ok (.ireturn, 1) := by decide +kernel
theorem d_L_audit_17 : decode b_L_audit 17 = .ok (.iconst 0, 1) := by decide +kernel
theorem d_L_audit_18 : decode b_L_audit 18 = .ok (.ireturn, 1) := by decide +kernel
theorem d_L_exportByte_0 : decode b_L_exportByte 0 = .ok (.aload 4, 2) := by decide +kernel
theorem d_L_exportByte_2 : decode b_L_exportByte 2 = .ok (.iconst 0, 1) := by decide +kernel
theorem d_L_exportByte_3 : decode b_L_exportByte 3 = .ok (.aload_n 0, 1) := by decide +kernel
theorem d_L_exportByte_4 : decode b_L_exportByte 4 = .ok (.iload_n 1, 1) := by decide +kernel
theorem d_L_exportByte_5 : decode b_L_exportByte 5 = .ok (.iload_n 2, 1) := by decide +kernel
theorem d_L_exportByte_6 : decode b_L_exportByte 6 = .ok (.iload_n 3, 1) := by decide +kernel
theorem d_L_exportByte_7 : decode b_L_exportByte 7 = .ok (.invokevirtual 47, 3) := by decide +kernel
theorem d_L_exportByte_10 : decode b_L_exportByte 10 = .ok (.i2l, 1) := by decide +kernel
theorem d_L_exportByte_11 : decode b_L_exportByte 11 = .ok (.lastore, 1) := by decide +kernel
theorem d_L_exportByte_12 : decode b_L_exportByte 12 = .ok (.goto (7), 3) := by decide +kernel
theorem d_L_exportByte_15 : decode b_L_exportByte 15 = .ok (.astore 5, 2) := by decide +kernel
theorem d_L_exportByte_17 : decode b_L_exportByte 17 = .ok (.iconst 1, 1) := by decide +kernel
theorem d_L_exportByte_18 : decode b_L_exportByte 18 = .ok (.ireturn, 1) := by decide +kernel
theorem d_L_exportByte_19 : decode b_L_exportByte 19 = .ok (.iconst 0, 1) := by decide +kernel
theorem d_L_exportByte_20 : decode b_L_exportByte 20 = .ok (.ireturn, 1) := by decide +kernel
theorem d_L_wearOf_0 : decode b_L_wearOf 0 = .ok (.aload_n 2, 1) := by decide +kernel
theorem d_L_wearOf_1 : decode b_L_wearOf 1 = .ok (.iconst 0, 1) := by decide +kernel
theorem d_L_wearOf_2 : decode b_L_wearOf 2 = .ok (.aload_n 0, 1) := by decide +kernel
theorem d_L_wearOf_3 : decode b_L_wearOf 3 = .ok (.iload_n 1, 1) := by decide +kernel
theorem d_L_wearOf_4 : decode b_L_wearOf 4 = .ok (.invokevirtual 59, 3) := by decide +kernel
theorem d_L_wearOf_7 : decode b_L_wearOf 7 = .ok (.i2l, 1) := by decide +kernel
theorem d_L_wearOf_8 : decode b_L_wearOf 8 = .ok (.lastore, 1) := by decide +kernel
theorem d_L_wearOf_9 : decode b_L_wearOf 9 = .ok (.goto (6), 3) := by decide +kernel
theorem d_L_wearOf_12 : decode b_L_wearOf 12 = .ok (.astore_n 3, 1) := by decide +kernel
theorem d_L_wearOf_13 : decode b_L_wearOf 13 = .ok (.iconst 1, 1) := by decide +kernel
theorem d_L_wearOf_14 : decode b_L_wearOf 14 = .ok (.ireturn, 1) := by decide +kernel
theorem d_L_wearOf_15 : decode b_L_wearOf 15 = .ok (.iconst 0, 1) := by decide +kernel
theorem d_L_wearOf_16 : decode b_L_wearOf 16 = .ok (.ireturn, 1) := by decide +kernel
theorem d_L_word_0 : decode b_L_word 0 = .ok (.aload_n 3, 1) := by decide +kernel
theorem d_L_word_1 : decode b_L_word 1 = .ok (.iconst 0, 1) := by decide +kernel
theorem d_L_word_2 : decode b_L_word 2 = .ok (.aload_n 0, 1) := by decide +kernel
theorem d_L_word_3 : decode b_L_word 3 = .ok (.iload_n 1, 1) := by decide +kernel
theorem d_L_word_4 : decode b_L_word 4 = .ok (.iload_n 2, 1) := by decide +kernel
theorem d_L_word_5 : decode b_L_word 5 = .ok (.invokevirtual 69, 3) := by decide +kernel
theorem d_L_word_8 : decode b_L_word 8 = .ok (.i2l, 1) := by decide +kernel
theorem d_L_word_9 : decode b_L_word 9 = .ok (.lastore, 1) := by decide +kernel
theorem d_L_word_10 : decode b_L_word 10 = .ok (.goto (7), 3) := by decide +kernel
theorem d_L_word_13 : decode b_L_word 13 = .ok (.astore 4, 2) := by decide +kernel
theorem d_L_word_15 : decode b_L_word 15 = .ok (.iconst 1, 1) := by decide +kernel
theorem d_L_word_16 : decode b_L_word 16 = .ok (.ireturn, 1) := by decide +kernel
theorem d_L_word_17 : decode b_L_word 17 = .ok (.iconst 0, 1) := by decide +kernel
theorem d_L_word_18 : decode b_L_word 18 = .ok (.ireturn, 1) := by decide +kernel
theorem d_L_setProduct_0 : decode b_L_setProduct 0 = .ok (.aload_n 0, 1) := by decide +kernel
theorem d_L_setProduct_1 : decode b_L_setProduct 1 = .ok (.iload_n 1, 1) := by decide +kernel
theorem d_L_setProduct_2 : decode b_L_setProduct 2 = .ok (.iload_n 2, 1) := by decide +kernel
theorem d_L_setProduct_3 : decode b_L_setProduct 3 = .ok (.invokevirtual 51, 3) := by decide +kernel
theorem d_L_setProduct_6 : decode b_L_setProduct 6 = .ok (.goto (6), 3) := by decide +kernel
theorem d_L_setProduct_9 : decode b_L_setProduct 9 = .ok (.astore_n 3, 1) := by decide +kernel
theorem d_L_setProduct_10 : decode b_L_setProduct 10 = .ok (.iconst 1, 1) := by decide +kernel
theorem d_L_setProduct_11 : decode b_L_setProduct 11 = .ok (.ireturn, 1) := by decide +kernel
theorem d_L_setProduct_12 : decode b_L_setProduct 12 = .ok (.iconst 0, 1) := by decide +kernel
theorem d_L_setProduct_13 : decode b_L_setProduct 13 = .ok (.ireturn, 1) := by decide +kernel
theorem d_L_cutAfter_0 : decode b_L_cutAfter 0 = .ok (.aload_n 0, 1) := by decide +kernel
theorem d_L_cutAfter_1 : decode b_L_cutAfter 1 = .ok (.iload_n 1, 1) := by decide +kernel
theorem d_L_cutAfter_2 : decode b_L_cutAfter 2 = .ok (.invokevirtual 55, 3) := by decide +kernel
theorem d_L_cutAfter_5 : decode b_L_cutAfter 5 = .ok (.goto (6), 3) := by decide +kernel
theorem d_L_cutAfter_8 : decode b_L_cutAfter 8 = .ok (.astore_n 2, 1) := by decide +kernel
theorem d_L_cutAfter_9 : decode b_L_cutAfter 9 = .ok (.iconst 1, 1) := by decide +kernel
theorem d_L_cutAfter_10 : decode b_L_cutAfter 10 = .ok (.ireturn, 1) := by decide +kernel
theorem d_L_cutAfter_11 : decode b_L_cutAfter 11 = .ok (.iconst 0, 1) := by decide +kernel
theorem d_L_cutAfter_12 : decode b_L_cutAfter 12 = .ok (.ireturn, 1) := by decide +kernel
theorem d_L_failBlock_0 : decode b_L_failBlock 0 = .ok (.aload_n 0, 1) := by decide +kernel
theorem d_L_failBlock_1 : decode b_L_failBlock 1 = .ok (.iload_n 1, 1) := by decide +kernel
theorem d_L_failBlock_2 : decode b_L_failBlock 2 = .ok (.invokevirtual 62, 3) := by decide +kernel
theorem d_L_failBlock_5 : decode b_L_failBlock 5 = .ok (.goto (6), 3) := by decide +kernel
theorem d_L_failBlock_8 : decode b_L_failBlock 8 = .ok (.astore_n 2, 1) := by decide +kernel
theorem d_L_failBlock_9 : decode b_L_failBlock 9 = .ok (.iconst 1, 1) := by decide +kernel
theorem d_L_failBlock_10 : decode b_L_failBlock 10 = .ok (.ireturn, 1) := by decide +kernel
theorem d_L_failBlock_11 : decode b_L_failBlock 11 = .ok (.iconst 0, 1) := by decide +kernel
theorem d_L_failBlock_12 : decode b_L_failBlock 12 = .ok (.ireturn, 1) := by decide +kernel
theorem d_L_poke_0 : decode b_L_poke 0 = .ok (.aload_n 0, 1) := by decide +kernel
theorem d_L_poke_1 : decode b_L_poke 1 = .ok (.iload_n 1, 1) := by decide +kernel
theorem d_L_poke_2 : decode b_L_poke 2 = .ok (.iload_n 2, 1) := by decide +kernel
theorem d_L_poke_3 : decode b_L_poke 3 = .ok (.iload_n 3, 1) := by decide +kernel
theorem d_L_poke_4 : decode b_L_poke 4 = .ok (.invokevirtual 65, 3) := by decide +kernel
theorem d_L_poke_7 : decode b_L_poke 7 = .ok (.goto (7), 3) := by decide +kernel
theorem d_L_poke_10 : decode b_L_poke 10 = .ok (.astore 4, 2) := by decide +kernel
theorem d_L_poke_12 : decode b_L_poke 12 = .ok (.iconst 1, 1) := by decide +kernel
theorem d_L_poke_13 : decode b_L_poke 13 = .ok (.ireturn, 1) := by decide +kernel
theorem d_L_poke_14 : decode b_L_poke 14 = .ok (.iconst 0, 1) := by decide +kernel
theorem d_L_poke_15 : decode b_L_poke 15 = .ok (.ireturn, 1) := by decide +kernel
theorem d_L_ticket_0 : decode b_L_ticket 0 = .ok (.aload_n 3, 1) := by decide +kernel
theorem d_L_ticket_1 : decode b_L_ticket 1 = .ok (.iconst 0, 1) := by decide +kernel
theorem d_L_ticket_2 : decode b_L_ticket 2 = .ok (.aload_n 0, 1) := by decide +kernel
theorem d_L_ticket_3 : decode b_L_ticket 3 = .ok (.iload_n 1, 1) := by decide +kernel
theorem d_L_ticket_4 : decode b_L_ticket 4 = .ok (.iload_n 2, 1) := by decide +kernel
theorem d_L_ticket_5 : decode b_L_ticket 5 = .ok (.invokevirtual 29, 3) := by decide +kernel
theorem d_L_ticket_8 : decode b_L_ticket 8 = .ok (.i2l, 1) := by decide +kernel
theorem d_L_ticket_9 : decode b_L_ticket 9 = .ok (.lastore, 1) := by decide +kernel
theorem d_L_ticket_10 : decode b_L_ticket 10 = .ok (.goto (11), 3) := by decide +kernel
theorem d_L_ticket_13 : decode b_L_ticket 13 = .ok (.astore 4, 2) := by decide +kernel
theorem d_L_ticket_15 : decode b_L_ticket 15 = .ok (.iconst 1, 1) := by decide +kernel
theorem d_L_ticket_16 : decode b_L_ticket 16 = .ok (.ireturn, 1) := by decide +kernel
theorem d_L_ticket_17 : decode b_L_ticket 17 = .ok (.astore 4, 2) := by decide +kernel
theorem d_L_ticket_19 : decode b_L_ticket 19 = .ok (.iconst 2, 1) := by decide +kernel
theorem d_L_ticket_20 : decode b_L_ticket 20 = .ok (.ireturn, 1) := by decide +kernel
theorem d_L_ticket_21 : decode b_L_ticket 21 = .ok (.iconst 0, 1) := by decide +kernel
theorem d_L_ticket_22 : decode b_L_ticket 22 = .ok (.ireturn, 1) := by decide +kernel
