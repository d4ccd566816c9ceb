abbrev b_C_isPowered : ByteArray := prog_2_method_2_code
def y_C_isPowered : MethodName := ⟨R_C, "isPowered", "()Z"⟩
def w_C_isPowered : List Cond := .code y_C_isPowered b_C_isPowered 1 (some (.boolean)) :: gw
abbrev b_C_read : ByteArray := prog_2_method_6_code
def y_C_read : MethodName := ⟨R_C, "read", "(II)I"⟩
def w_C_read : List Cond := .code y_C_read b_C_read 3 (some (.int)) :: gw
abbrev b_C_isFree : ByteArray := prog_2_method_14_code
def y_C_isFree : MethodName := ⟨R_C, "isFree", "(I)Z"⟩
def w_C_isFree : List Cond := .code y_C_isFree b_C_isFree 4 (some (.boolean)) :: gw
theorem t_37 : (.fieldLink R_C 22 R_C "powered" "Z" : Cond) ∈ gw := gw_in (tb_1 (List.mem_of_getElem? (i := 37) rfl)) (by first | rfl | decide +kernel)
theorem t_34 : (.fieldLink R_C 9 R_C "words" "[I" : Cond) ∈ gw := gw_in (tb_1 (List.mem_of_getElem? (i := 34) rfl)) (by first | rfl | decide +kernel)
theorem d_C_isPowered_0 : decode b_C_isPowered 0 = .ok (.aload_n 0, 1) := by decide +kernel
theorem d_C_isPowered_1 : decode b_C_isPowered 1 = .ok (.getfield 22, 3) := by decide +kernel
theorem d_C_isPowered_4 : decode b_C_isPowered 4 = .ok (.ireturn, 1) := by decide +kernel
theorem d_C_read_0 : decode b_C_read 0 = .ok (.aload_n 0, 1) := by decide +kernel
theorem d_C_read_1 : decode b_C_read 1 = .ok (.getfield 9, 3) := by decide +kernel
theorem d_C_read_4 : decode b_C_read 4 = .ok (.iload_n 1, 1) := by decide +kernel
theorem d_C_read_5 : decode b_C_read 5 = .ok (.bipush 16, 2) := by decide +kernel
theorem d_C_read_7 : decode b_C_read 7 = .ok (.imul, 1) := by decide +kernel
theorem d_C_read_8 : decode b_C_read 8 = .ok (.iload_n 2, 1) := by decide +kernel
theorem d_C_read_9 : decode b_C_read 9 = .ok (.iadd, 1) := by decide +kernel
theorem d_C_read_10 : decode b_C_read 10 = .ok (.iaload, 1) := by decide +kernel
theorem d_C_read_11 : decode b_C_read 11 = .ok (.ireturn, 1) := by decide +kernel
theorem d_C_isFree_0 : decode b_C_isFree 0 = .ok (.iload_n 1, 1) := by decide +kernel
theorem d_C_isFree_1 : decode b_C_isFree 1 = .ok (.bipush 16, 2) := by decide +kernel
theorem d_C_isFree_3 : decode b_C_isFree 3 = .ok (.imul, 1) := by decide +kernel
theorem d_C_isFree_4 : decode b_C_isFree 4 = .ok (.istore_n 2, 1) := by decide +kernel
theorem d_C_isFree_5 : decode b_C_isFree 5 = .ok (.iload_n 2, 1) := by decide +kernel
theorem d_C_isFree_6 : decode b_C_isFree 6 = .ok (.istore_n 3, 1) := by decide +kernel
theorem d_C_isFree_7 : decode b_C_isFree 7 = .ok (.iload_n 3, 1) := by decide +kernel
theorem d_C_isFree_8 : decode b_C_isFree 8 = .ok (.iload_n 2, 1) := by decide +kernel
theorem d_C_isFree_9 : decode b_C_isFree 9 = .ok (.bipush 16, 2) := by decide +kernel
theorem d_C_isFree_11 : decode b_C_isFree 11 = .ok (.iadd, 1) := by decide +kernel
theorem d_C_isFree_12 : decode b_C_isFree 12 = .ok (.if_icmp .ge (21), 3) := by decide +kernel
theorem d_C_isFree_15 : decode b_C_isFree 15 = .ok (.aload_n 0, 1) := by decide +kernel
theorem d_C_isFree_16 : decode b_C_isFree 16 = .ok (.getfield 9, 3) := by decide +kernel
theorem d_C_isFree_19 : decode b_C_isFree 19 = .ok (.iload_n 3, 1) := by decide +kernel
theorem d_C_isFree_20 : decode b_C_isFree 20 = .ok (.iaload, 1) := by decide +kernel
theorem d_C_isFree_21 : decode b_C_isFree 21 = .ok (.iconst (-1), 1) := by decide +kernel
theorem d_C_isFree_22 : decode b_C_isFree 22 = .ok (.if_icmp .eq (5), 3) := by decide +kernel
theorem d_C_isFree_25 : decode b_C_isFree 25 = .ok (.iconst 0, 1) := by decide +kernel
theorem d_C_isFree_26 : decode b_C_isFree 26 = .ok (.ireturn, 1) := by decide +kernel
theorem d_C_isFree_27 : decode b_C_isFree 27 = .ok (.iinc 3 1, 3) := by decide +kernel
theorem d_C_isFree_30 : decode b_C_isFree 30 = .ok (.goto (-23), 3) := by decide +kernel
theorem d_C_isFree_33 : decode b_C_isFree 33 = .ok (.iconst 1, 1) := by decide +kernel
theorem d_C_isFree_34 : decode b_C_isFree 34 = .ok (.ireturn, 1) := by decide +kernel
