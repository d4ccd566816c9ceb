theorem nw_i (cA : ClassId) (n : Nat) : vp_cell cA (n, .inl (fun _ => 0)) = arrV cA n (fun _ => defaultValue .int) := vp_cell_i ..
theorem nw_z (cA : ClassId) (n : Nat) : vp_cell cA (n, .inl (fun _ => 0)) = arrV cA n (fun _ => defaultValue .boolean) := vp_cell_i ..
theorem nw_b (cA : ClassId) (n : Nat) : vp_cell cA (n, .inl (fun _ => 0)) = arrV cA n (fun _ => defaultValue .byte) := vp_cell_i ..
theorem nw_l (cA : ClassId) (n : Nat) : vp_cell cA (n, .inr (.inl (fun _ => 0))) = arrV cA n (fun _ => defaultValue .long) := vp_cell_l ..
abbrev b_C_init : ByteArray := prog_2_method_1_code
def y_C_init : MethodName := ⟨R_C, "<init>", "()V"⟩
def w_C_init : List Cond := .code y_C_init b_C_init 2 none :: gw
abbrev b_G_init : ByteArray := prog_4_method_1_code
def y_G_init : MethodName := ⟨R_G, "<init>", "()V"⟩
def w_G_init : List Cond := .code y_G_init b_G_init 1 none :: gw
abbrev b_N_init : ByteArray := prog_3_method_1_code
def y_N_init : MethodName := ⟨R_N, "<init>", "()V"⟩
def w_N_init : List Cond := .code y_N_init b_N_init 1 none :: gw
abbrev b_S_init : ByteArray := prog_5_method_1_code
def y_S_init : MethodName := ⟨R_S, "<init>", "()V"⟩
def w_S_init : List Cond := .code y_S_init b_S_init 2 none :: gw
abbrev b_S_chip : ByteArray := prog_5_method_2_code
def y_S_chip : MethodName := ⟨R_S, "chip", "()LWeighRecorder$Chip;"⟩
def w_S_chip : List Cond := .code y_S_chip b_S_chip 1 (some (.object "WeighRecorder$Chip")) :: gw
abbrev b_R_init : ByteArray := prog_1_method_1_code
def y_R_init : MethodName := ⟨R_R, "<init>", "()V"⟩
def w_R_init : List Cond := .code y_R_init b_R_init 1 none :: gw
abbrev b_M_init : ByteArray := prog_7_method_1_code
def y_M_init : MethodName := ⟨R_M, "<init>", "()V"⟩
def w_M_init : List Cond := .code y_M_init b_M_init 2 none :: gw
theorem t_21 : (.code objectInit ⟨#[0xb1]⟩ 1 none : Cond) ∈ gw := gw_in (tb_1 (List.mem_of_getElem? (i := 21) rfl)) (by first | rfl | decide +kernel)
theorem t_33 : (.methodLink R_C 3 objectInit : Cond) ∈ gw := gw_in (tb_1 (List.mem_of_getElem? (i := 33) rfl)) (by first | rfl | decide +kernel)
theorem t_20 : (.instanceMethod objectInit : Cond) ∈ gw := gw_in (tb_1 (List.mem_of_getElem? (i := 20) rfl)) (by first | rfl | decide +kernel)
theorem t_50 : (.arrayClass .int : Cond) ∈ gw := gw_in (tb_1 (List.mem_of_getElem? (i := 50) rfl)) (by first | rfl | decide +kernel)
theorem t_51 : (.arrayClass .boolean : Cond) ∈ gw := gw_in (tb_1 (List.mem_of_getElem? (i := 51) rfl)) (by first | rfl | decide +kernel)
theorem t_83 : (.methodLink R_G 3 objectInit : Cond) ∈ gw := gw_in (tb_1 (List.mem_of_getElem? (i := 83) rfl)) (by first | rfl | decide +kernel)
theorem t_84 : (.fieldLink R_G 9 R_G "words" "[I" : Cond) ∈ gw := gw_in (tb_1 (List.mem_of_getElem? (i := 84) rfl)) (by first | rfl | decide +kernel)
theorem t_85 : (.fieldLink R_G 15 R_G "recordOfTicket" "[I" : Cond) ∈ gw := gw_in (tb_1 (List.mem_of_getElem? (i := 85) rfl)) (by first | rfl | decide +kernel)
theorem t_86 : (.fieldLink R_G 18 R_G "voidedBy" "[I" : Cond) ∈ gw := gw_in (tb_1 (List.mem_of_getElem? (i := 86) rfl)) (by first | rfl | decide +kernel)
theorem t_105 : (.methodLink R_N 1 objectInit : Cond) ∈ gw := gw_in (tb_1 (List.mem_of_getElem? (i := 105) rfl)) (by first | rfl | decide +kernel)
theorem t_113 : (.arrayClass .byte : Cond) ∈ gw := gw_in (tb_1 (List.mem_of_getElem? (i := 113) rfl)) (by first | rfl | decide +kernel)
theorem t_106 : (.fieldLink R_N 9 R_N "bytes" "[B" : Cond) ∈ gw := gw_in (tb_1 (List.mem_of_getElem? (i := 106) rfl)) (by first | rfl | decide +kernel)
theorem t_107 : (.fieldLink R_N 13 R_N "used" "I" : Cond) ∈ gw := gw_in (tb_1 (List.mem_of_getElem? (i := 107) rfl)) (by first | rfl | decide +kernel)
theorem t_27 : (.methodLink R_S 3 objectInit : Cond) ∈ gw := gw_in (tb_1 (List.mem_of_getElem? (i := 27) rfl)) (by first | rfl | decide +kernel)
theorem t_28 : (.classLink R_S 9 R_C : Cond) ∈ gw := gw_in (tb_1 (List.mem_of_getElem? (i := 28) rfl)) (by first | rfl | decide +kernel)
theorem t_29 : (.instantiable R_C 5 : Cond) ∈ gw := gw_in (tb_1 (List.mem_of_getElem? (i := 29) rfl)) (by first | rfl | decide +kernel)
theorem t_31 : (.instanceMethod y_C_init : Cond) ∈ gw := gw_in (tb_1 (List.mem_of_getElem? (i := 31) rfl)) (by first | rfl | decide +kernel)
theorem t_30 : (.methodLink R_S 11 y_C_init : Cond) ∈ gw := gw_in (tb_1 (List.mem_of_getElem? (i := 30) rfl)) (by first | rfl | decide +kernel)
theorem t_32 : (.code y_C_init b_C_init 2 none : Cond) ∈ gw := gw_in (tb_1 (List.mem_of_getElem? (i := 32) rfl)) (by first | rfl | decide +kernel)
theorem t_54 : (.fieldLink R_S 22 R_S "row" "[I" : Cond) ∈ gw := gw_in (tb_1 (List.mem_of_getElem? (i := 54) rfl)) (by first | rfl | decide +kernel)
theorem t_19 : (.methodLink R_R 3 objectInit : Cond) ∈ gw := gw_in (tb_1 (List.mem_of_getElem? (i := 19) rfl)) (by first | rfl | decide +kernel)
theorem t_22 : (.classLink R_R 9 R_S : Cond) ∈ gw := gw_in (tb_1 (List.mem_of_getElem? (i := 22) rfl)) (by first | rfl | decide +kernel)
theorem t_23 : (.instantiable R_S 7 : Cond) ∈ gw := gw_in (tb_1 (List.mem_of_getElem? (i := 23) rfl)) (by first | rfl | decide +kernel)
theorem t_25 : (.instanceMethod y_S_init : Cond) ∈ gw := gw_in (tb_1 (List.mem_of_getElem? (i := 25) rfl)) (by first | rfl | decide +kernel)
theorem t_24 : (.methodLink R_R 11 y_S_init : Cond) ∈ gw := gw_in (tb_1 (List.mem_of_getElem? (i := 24) rfl)) (by first | rfl | decide +kernel)
theorem t_26 : (.code y_S_init b_S_init 2 none : Cond) ∈ gw := gw_in (tb_1 (List.mem_of_getElem? (i := 26) rfl)) (by first | rfl | decide +kernel)
theorem t_74 : (.methodLink R_R 16 y_S_chip : Cond) ∈ gw := gw_in (tb_1 (List.mem_of_getElem? (i := 74) rfl)) (by first | rfl | decide +kernel)
theorem t_75 : (.instanceMethod y_S_chip : Cond) ∈ gw := gw_in (tb_1 (List.mem_of_getElem? (i := 75) rfl)) (by first | rfl | decide +kernel)
theorem t_76 : (.selects R_S y_S_chip y_S_chip : Cond) ∈ gw := gw_in (tb_1 (List.mem_of_getElem? (i := 76) rfl)) (by first | rfl | decide +kernel)
theorem t_77 : (.code y_S_chip b_S_chip 1 (some (.object "WeighRecorder$Chip")) : Cond) ∈ gw := gw_in (tb_1 (List.mem_of_getElem? (i := 77) rfl)) (by first | rfl | decide +kernel)
theorem t_78 : (.classLink R_R 23 R_G : Cond) ∈ gw := gw_in (tb_1 (List.mem_of_getElem? (i := 78) rfl)) (by first | rfl | decide +kernel)
theorem t_79 : (.instantiable R_G 5 : Cond) ∈ gw := gw_in (tb_1 (List.mem_of_getElem? (i := 79) rfl)) (by first | rfl | decide +kernel)
theorem t_81 : (.instanceMethod y_G_init : Cond) ∈ gw := gw_in (tb_1 (List.mem_of_getElem? (i := 81) rfl)) (by first | rfl | decide +kernel)
theorem t_82 : (.code y_G_init b_G_init 1 none : Cond) ∈ gw := gw_in (tb_1 (List.mem_of_getElem? (i := 82) rfl)) (by first | rfl | decide +kernel)
theorem t_100 : (.classLink R_R 30 R_N : Cond) ∈ gw := gw_in (tb_1 (List.mem_of_getElem? (i := 100) rfl)) (by first | rfl | decide +kernel)
theorem t_101 : (.instantiable R_N 2 : Cond) ∈ gw := gw_in (tb_1 (List.mem_of_getElem? (i := 101) rfl)) (by first | rfl | decide +kernel)
theorem t_5 : (.initialized R_N : Cond) ∈ gw := gw_in (tb_1 (List.mem_of_getElem? (i := 5) rfl)) (by first | rfl | decide +kernel)
theorem t_103 : (.instanceMethod y_N_init : Cond) ∈ gw := gw_in (tb_1 (List.mem_of_getElem? (i := 103) rfl)) (by first | rfl | decide +kernel)
theorem t_104 : (.code y_N_init b_N_init 1 none : Cond) ∈ gw := gw_in (tb_1 (List.mem_of_getElem? (i := 104) rfl)) (by first | rfl | decide +kernel)
theorem t_117 : (.fieldLink R_R 33 R_R "line" "LWeighRecorder$Line;" : Cond) ∈ gw := gw_in (tb_1 (List.mem_of_getElem? (i := 117) rfl)) (by first | rfl | decide +kernel)
theorem t_707 : (.methodLink R_M 1 objectInit : Cond) ∈ gw := gw_in (tb_3 (List.mem_of_getElem? (i := 227) rfl)) (by first | rfl | decide +kernel)
theorem t_720 : (.fieldLink R_M 31 R_M "log" "[I" : Cond) ∈ gw := gw_in (tb_4 (List.mem_of_getElem? (i := 0) rfl)) (by first | rfl | decide +kernel)
theorem t_722 : (.fieldLink R_M 37 R_M "had" "[I" : Cond) ∈ gw := gw_in (tb_4 (List.mem_of_getElem? (i := 2) rfl)) (by first | rfl | decide +kernel)
theorem t_728 : (.fieldLink R_M 43 R_M "page" "[I" : Cond) ∈ gw := gw_in (tb_4 (List.mem_of_getElem? (i := 8) rfl)) (by first | rfl | decide +kernel)
theorem d_C_init_0 : decode b_C_init 0 = .ok (.aload_n 0, 1) := by decide +kernel
theorem d_C_init_1 : decode b_C_init 1 = .ok (.invokespecial 3, 3) := by decide +kernel
theorem d_C_init_4 : decode b_C_init 4 = .ok (.aload_n 0, 1) := by decide +kernel
theorem d_C_init_5 : decode b_C_init 5 = .ok (.sipush 512, 3) := by decide +kernel
theorem d_C_init_8 : decode b_C_init 8 = .ok (.newarray .int, 2) := by decide +kernel
theorem d_C_init_10 : decode b_C_init 10 = .ok (.putfield 9, 3) := by decide +kernel
theorem d_C_init_13 : decode b_C_init 13 = .ok (.aload_n 0, 1) := by decide +kernel
theorem d_C_init_14 : decode b_C_init 14 = .ok (.bipush 8, 2) := by decide +kernel
theorem d_C_init_16 : decode b_C_init 16 = .ok (.newarray .int, 2) := by decide +kernel
theorem d_C_init_18 : decode b_C_init 18 = .ok (.putfield 15, 3) := by decide +kernel
theorem d_C_init_21 : decode b_C_init 21 = .ok (.aload_n 0, 1) := by decide +kernel
theorem d_C_init_22 : decode b_C_init 22 = .ok (.bipush 8, 2) := by decide +kernel
theorem d_C_init_24 : decode b_C_init 24 = .ok (.newarray .boolean, 2) := by decide +kernel
theorem d_C_init_26 : decode b_C_init 26 = .ok (.putfield 18, 3) := by decide +kernel
theorem d_C_init_29 : decode b_C_init 29 = .ok (.aload_n 0, 1) := by decide +kernel
theorem d_C_init_30 : decode b_C_init 30 = .ok (.iconst 1, 1) := by decide +kernel
theorem d_C_init_31 : decode b_C_init 31 = .ok (.putfield 22, 3) := by decide +kernel
theorem d_C_init_34 : decode b_C_init 34 = .ok (.aload_n 0, 1) := by decide +kernel
theorem d_C_init_35 : decode b_C_init 35 = .ok (.iconst (-1), 1) := by decide +kernel
theorem d_C_init_36 : decode b_C_init 36 = .ok (.putfield 26, 3) := by decide +kernel
theorem d_C_init_39 : decode b_C_init 39 = .ok (.iconst 0, 1) := by decide +kernel
theorem d_C_init_40 : decode b_C_init 40 = .ok (.istore_n 1, 1) := by decide +kernel
theorem d_C_init_41 : decode b_C_init 41 = .ok (.iload_n 1, 1) := by decide +kernel
theorem d_C_init_42 : decode b_C_init 42 = .ok (.aload_n 0, 1) := by decide +kernel
theorem d_C_init_43 : decode b_C_init 43 = .ok (.getfield 9, 3) := by decide +kernel
theorem d_C_init_46 : decode b_C_init 46 = .ok (.arraylength, 1) := by decide +kernel
theorem d_C_init_47 : decode b_C_init 47 = .ok (.if_icmp .ge (16), 3) := by decide +kernel
theorem d_C_init_50 : decode b_C_init 50 = .ok (.aload_n 0, 1) := by decide +kernel
theorem d_C_init_51 : decode b_C_init 51 = .ok (.getfield 9, 3) := by decide +kernel
theorem d_C_init_54 : decode b_C_init 54 = .ok (.iload_n 1, 1) := by decide +kernel
theorem d_C_init_55 : decode b_C_init 55 = .ok (.iconst (-1), 1) := by decide +kernel
theorem d_C_init_56 : decode b_C_init 56 = .ok (.iastore, 1) := by decide +kernel
theorem d_C_init_57 : decode b_C_init 57 = .ok (.iinc 1 1, 3) := by decide +kernel
theorem d_C_init_60 : decode b_C_init 60 = .ok (.goto (-19), 3) := by decide +kernel
theorem d_C_init_63 : decode b_C_init 63 = .ok (.return_, 1) := by decide +kernel
theorem d_G_init_0 : decode b_G_init 0 = .ok (.aload_n 0, 1) := by decide +kernel
theorem d_G_init_1 : decode b_G_init 1 = .ok (.invokespecial 3, 3) := by decide +kernel
theorem d_G_init_4 : decode b_G_init 4 = .ok (.aload_n 0, 1) := by decide +kernel
theorem d_G_init_5 : decode b_G_init 5 = .ok (.sipush 192, 3) := by decide +kernel
theorem d_G_init_8 : decode b_G_init 8 = .ok (.newarray .int, 2) := by decide +kernel
theorem d_G_init_10 : decode b_G_init 10 = .ok (.putfield 9, 3) := by decide +kernel
theorem d_G_init_13 : decode b_G_init 13 = .ok (.aload_n 0, 1) := by decide +kernel
theorem d_G_init_14 : decode b_G_init 14 = .ok (.bipush 48, 2) := by decide +kernel
theorem d_G_init_16 : decode b_G_init 16 = .ok (.newarray .int, 2) := by decide +kernel
theorem d_G_init_18 : decode b_G_init 18 = .ok (.putfield 15, 3) := by decide +kernel
theorem d_G_init_21 : decode b_G_init 21 = .ok (.aload_n 0, 1) := by decide +kernel
theorem d_G_init_22 : decode b_G_init 22 = .ok (.bipush 48, 2) := by decide +kernel
theorem d_G_init_24 : decode b_G_init 24 = .ok (.newarray .int, 2) := by decide +kernel
theorem d_G_init_26 : decode b_G_init 26 = .ok (.putfield 18, 3) := by decide +kernel
theorem d_G_init_29 : decode b_G_init 29 = .ok (.aload_n 0, 1) := by decide +kernel
theorem d_G_init_30 : decode b_G_init 30 = .ok (.iconst 0, 1) := by decide +kernel
theorem d_G_init_31 : decode b_G_init 31 = .ok (.putfield 21, 3) := by decide +kernel
theorem d_G_init_34 : decode b_G_init 34 = .ok (.aload_n 0, 1) := by decide +kernel
theorem d_G_init_35 : decode b_G_init 35 = .ok (.iconst 0, 1) := by decide +kernel
theorem d_G_init_36 : decode b_G_init 36 = .ok (.putfield 25, 3) := by decide +kernel
theorem d_G_init_39 : decode b_G_init 39 = .ok (.return_, 1) := by decide +kernel
theorem d_N_init_0 : decode b_N_init 0 = .ok (.aload_n 0, 1) := by decide +kernel
theorem d_N_init_1 : decode b_N_init 1 = .ok (.invokespecial 1, 3) := by decide +kernel
theorem d_N_init_4 : decode b_N_init 4 = .ok (.aload_n 0, 1) := by decide +kernel
theorem d_N_init_5 : decode b_N_init 5 = .ok (.bipush 32, 2) := by decide +kernel
theorem d_N_init_7 : decode b_N_init 7 = .ok (.newarray .byte, 2) := by decide +kernel
theorem d_N_init_9 : decode b_N_init 9 = .ok (.putfield 9, 3) := by decide +kernel
theorem d_N_init_12 : decode b_N_init 12 = .ok (.aload_n 0, 1) := by decide +kernel
theorem d_N_init_13 : decode b_N_init 13 = .ok (.iconst 0, 1) := by decide +kernel
theorem d_N_init_14 : decode b_N_init 14 = .ok (.putfield 13, 3) := by decide +kernel
theorem d_N_init_17 : decode b_N_init 17 = .ok (.return_, 1) := by decide +kernel
theorem d_S_init_0 : decode b_S_init 0 = .ok (.aload_n 0, 1) := by decide +kernel
theorem d_S_init_1 : decode b_S_init 1 = .ok (.invokespecial 3, 3) := by decide +kernel
theorem d_S_init_4 : decode b_S_init 4 = .ok (.aload_n 0, 1) := by decide +kernel
theorem d_S_init_5 : decode b_S_init 5 = .ok (.new 9, 3) := by decide +kernel
theorem d_S_init_8 : decode b_S_init 8 = .ok (.dup, 1) := by decide +kernel
theorem d_S_init_9 : decode b_S_init 9 = .ok (.invokespecial 11, 3) := by decide +kernel
theorem d_S_init_12 : decode b_S_init 12 = .ok (.putfield 12, 3) := by decide +kernel
theorem d_S_init_15 : decode b_S_init 15 = .ok (.aload_n 0, 1) := by decide +kernel
theorem d_S_init_16 : decode b_S_init 16 = .ok (.bipush 16, 2) := by decide +kernel
theorem d_S_init_18 : decode b_S_init 18 = .ok (.newarray .int, 2) := by decide +kernel
theorem d_S_init_20 : decode b_S_init 20 = .ok (.putfield 18, 3) := by decide +kernel
theorem d_S_init_23 : decode b_S_init 23 = .ok (.aload_n 0, 1) := by decide +kernel
theorem d_S_init_24 : decode b_S_init 24 = .ok (.bipush 16, 2) := by decide +kernel
theorem d_S_init_26 : decode b_S_init 26 = .ok (.newarray .int, 2) := by decide +kernel
theorem d_S_init_28 : decode b_S_init 28 = .ok (.putfield 22, 3) := by decide +kernel
theorem d_S_init_31 : decode b_S_init 31 = .ok (.aload_n 0, 1) := by decide +kernel
theorem d_S_init_32 : decode b_S_init 32 = .ok (.iconst (-1), 1) := by decide +kernel
theorem d_S_init_33 : decode b_S_init 33 = .ok (.putfield 25, 3) := by decide +kernel
theorem d_S_init_36 : decode b_S_init 36 = .ok (.aload_n 0, 1) := by decide +kernel
theorem d_S_init_37 : decode b_S_init 37 = .ok (.iconst 0, 1) := by decide +kernel
theorem d_S_init_38 : decode b_S_init 38 = .ok (.putfield 29, 3) := by decide +kernel
theorem d_S_init_41 : decode b_S_init 41 = .ok (.aload_n 0, 1) := by decide +kernel
theorem d_S_init_42 : decode b_S_init 42 = .ok (.iconst 0, 1) := by decide +kernel
theorem d_S_init_43 : decode b_S_init 43 = .ok (.putfield 32, 3) := by decide +kernel
theorem d_S_init_46 : decode b_S_init 46 = .ok (.aload_n 0, 1) := by decide +kernel
theorem d_S_init_47 : decode b_S_init 47 = .ok (.iconst 0, 1) := by decide +kernel
theorem d_S_init_48 : decode b_S_init 48 = .ok (.putfield 35, 3) := by decide +kernel
theorem d_S_init_51 : decode b_S_init 51 = .ok (.iconst 0, 1) := by decide +kernel
theorem d_S_init_52 : decode b_S_init 52 = .ok (.istore_n 1, 1) := by decide +kernel
theorem d_S_init_53 : decode b_S_init 53 = .ok (.iload_n 1, 1) := by decide +kernel
theorem d_S_init_54 : decode b_S_init 54 = .ok (.bipush 16, 2) := by decide +kernel
theorem d_S_init_56 : decode b_S_init 56 = .ok (.if_icmp .ge (16), 3) := by decide +kernel
theorem d_S_init_59 : decode b_S_init 59 = .ok (.aload_n 0, 1) := by decide +kernel
theorem d_S_init_60 : decode b_S_init 60 = .ok (.getfield 18, 3) := by decide +kernel
theorem d_S_init_63 : decode b_S_init 63 = .ok (.iload_n 1, 1) := by decide +kernel
theorem d_S_init_64 : decode b_S_init 64 = .ok (.iconst (-1), 1) := by decide +kernel
theorem d_S_init_65 : decode b_S_init 65 = .ok (.iastore, 1) := by decide +kernel
theorem d_S_init_66 : decode b_S_init 66 = .ok (.iinc 1 1, 3) := by decide +kernel
theorem d_S_init_69 : decode b_S_init 69 = .ok (.goto (-16), 3) := by decide +kernel
theorem d_S_init_72 : decode b_S_init 72 = .ok (.return_, 1) := by decide +kernel
theorem d_S_chip_0 : decode b_S_chip 0 = .ok (.aload_n 0, 1) := by decide +kernel
theorem d_S_chip_1 : decode b_S_chip 1 = .ok (.getfield 12, 3) := by decide +kernel
theorem d_S_chip_4 : decode b_S_chip 4 = .ok (.areturn, 1) := by decide +kernel
theorem d_R_init_0 : decode b_R_init 0 = .ok (.aload_n 0, 1) := by decide +kernel
theorem d_R_init_1 : decode b_R_init 1 = .ok (.invokespecial 3, 3) := by decide +kernel
theorem d_R_init_4 : decode b_R_init 4 = .ok (.aload_n 0, 1) := by decide +kernel
theorem d_R_init_5 : decode b_R_init 5 = .ok (.new 9, 3) := by decide +kernel
theorem d_R_init_8 : decode b_R_init 8 = .ok (.dup, 1) := by decide +kernel
theorem d_R_init_9 : decode b_R_init 9 = .ok (.invokespecial 11, 3) := by decide +kernel
theorem d_R_init_12 : decode b_R_init 12 = .ok (.putfield 12, 3) := by decide +kernel
theorem d_R_init_15 : decode b_R_init 15 = .ok (.aload_n 0, 1) := by decide +kernel
theorem d_R_init_16 : decode b_R_init 16 = .ok (.aload_n 0, 1) := by decide +kernel
theorem d_R_init_17 : decode b_R_init 17 = .ok (.getfield 12, 3) := by decide +kernel
theorem d_R_init_20 : decode b_R_init 20 = .ok (.invokevirtual 16, 3) := by decide +kernel
theorem d_R_init_23 : decode b_R_init 23 = .ok (.putfield 20, 3) := by decide +kernel
theorem d_R_init_26 : decode b_R_init 26 = .ok (.aload_n 0, 1) := by decide +kernel
theorem d_R_init_27 : decode b_R_init 27 = .ok (.new 23, 3) := by decide +kernel
theorem d_R_init_30 : decode b_R_init 30 = .ok (.dup, 1) := by decide +kernel
theorem d_R_init_31 : decode b_R_init 31 = .ok (.invokespecial 25, 3) := by decide +kernel
theorem d_R_init_34 : decode b_R_init 34 = .ok (.putfield 26, 3) := by decide +kernel
theorem d_R_init_37 : decode b_R_init 37 = .ok (.aload_n 0, 1) := by decide +kernel
theorem d_R_init_38 : decode b_R_init 38 = .ok (.new 30, 3) := by decide +kernel
theorem d_R_init_41 : decode b_R_init 41 = .ok (.dup, 1) := by decide +kernel
theorem d_R_init_42 : decode b_R_init 42 = .ok (.invokespecial 32, 3) := by decide +kernel
theorem d_R_init_45 : decode b_R_init 45 = .ok (.putfield 33, 3) := by decide +kernel
theorem d_R_init_48 : decode b_R_init 48 = .ok (.aload_n 0, 1) := by decide +kernel
theorem d_R_init_49 : decode b_R_init 49 = .ok (.bipush 40, 2) := by decide +kernel
theorem d_R_init_51 : decode b_R_init 51 = .ok (.newarray .boolean, 2) := by decide +kernel
theorem d_R_init_53 : decode b_R_init 53 = .ok (.putfield 37, 3) := by decide +kernel
theorem d_R_init_56 : decode b_R_init 56 = .ok (.aload_n 0, 1) := by decide +kernel
theorem d_R_init_57 : decode b_R_init 57 = .ok (.iconst 0, 1) := by decide +kernel
theorem d_R_init_58 : decode b_R_init 58 = .ok (.putfield 41, 3) := by decide +kernel
theorem d_R_init_61 : decode b_R_init 61 = .ok (.aload_n 0, 1) := by decide +kernel
theorem d_R_init_62 : decode b_R_init 62 = .ok (.iconst 0, 1) := by decide +kernel
theorem d_R_init_63 : decode b_R_init 63 = .ok (.putfield 45, 3) := by decide +kernel
theorem d_R_init_66 : decode b_R_init 66 = .ok (.return_, 1) := by decide +kernel
theorem d_M_init_0 : decode b_M_init 0 = .ok (.aload_n 0, 1) := by decide +kernel
theorem d_M_init_1 : decode b_M_init 1 = .ok (.invokespecial 1, 3) := by decide +kernel
theorem d_M_init_4 : decode b_M_init 4 = .ok (.aload_n 0, 1) := by decide +kernel
theorem d_M_init_5 : decode b_M_init 5 = .ok (.sipush 512, 3) := by decide +kernel
theorem d_M_init_8 : decode b_M_init 8 = .ok (.newarray .int, 2) := by decide +kernel
theorem d_M_init_10 : decode b_M_init 10 = .ok (.putfield 7, 3) := by decide +kernel
theorem d_M_init_13 : decode b_M_init 13 = .ok (.aload_n 0, 1) := by decide +kernel
theorem d_M_init_14 : decode b_M_init 14 = .ok (.bipush 8, 2) := by decide +kernel
theorem d_M_init_16 : decode b_M_init 16 = .ok (.newarray .int, 2) := by decide +kernel
theorem d_M_init_18 : decode b_M_init 18 = .ok (.putfield 13, 3) := by decide +kernel
theorem d_M_init_21 : decode b_M_init 21 = .ok (.aload_n 0, 1) := by decide +kernel
theorem d_M_init_22 : decode b_M_init 22 = .ok (.bipush 8, 2) := by decide +kernel
theorem d_M_init_24 : decode b_M_init 24 = .ok (.newarray .boolean, 2) := by decide +kernel
theorem d_M_init_26 : decode b_M_init 26 = .ok (.putfield 16, 3) := by decide +kernel
theorem d_M_init_29 : decode b_M_init 29 = .ok (.aload_n 0, 1) := by decide +kernel
theorem d_M_init_30 : decode b_M_init 30 = .ok (.bipush 40, 2) := by decide +kernel
theorem d_M_init_32 : decode b_M_init 32 = .ok (.newarray .boolean, 2) := by decide +kernel
theorem d_M_init_34 : decode b_M_init 34 = .ok (.putfield 20, 3) := by decide +kernel
theorem d_M_init_37 : decode b_M_init 37 = .ok (.aload_n 0, 1) := by decide +kernel
theorem d_M_init_38 : decode b_M_init 38 = .ok (.iconst 1, 1) := by decide +kernel
theorem d_M_init_39 : decode b_M_init 39 = .ok (.putfield 23, 3) := by decide +kernel
theorem d_M_init_42 : decode b_M_init 42 = .ok (.aload_n 0, 1) := by decide +kernel
theorem d_M_init_43 : decode b_M_init 43 = .ok (.iconst (-1), 1) := by decide +kernel
theorem d_M_init_44 : decode b_M_init 44 = .ok (.putfield 27, 3) := by decide +kernel
theorem d_M_init_47 : decode b_M_init 47 = .ok (.aload_n 0, 1) := by decide +kernel
theorem d_M_init_48 : decode b_M_init 48 = .ok (.sipush 192, 3) := by decide +kernel
theorem d_M_init_51 : decode b_M_init 51 = .ok (.newarray .int, 2) := by decide +kernel
theorem d_M_init_53 : decode b_M_init 53 = .ok (.putfield 31, 3) := by decide +kernel
theorem d_M_init_56 : decode b_M_init 56 = .ok (.aload_n 0, 1) := by decide +kernel
theorem d_M_init_57 : decode b_M_init 57 = .ok (.bipush 16, 2) := by decide +kernel
theorem d_M_init_59 : decode b_M_init 59 = .ok (.newarray .int, 2) := by decide +kernel
theorem d_M_init_61 : decode b_M_init 61 = .ok (.putfield 34, 3) := by decide +kernel
theorem d_M_init_64 : decode b_M_init 64 = .ok (.aload_n 0, 1) := by decide +kernel
theorem d_M_init_65 : decode b_M_init 65 = .ok (.bipush 16, 2) := by decide +kernel
theorem d_M_init_67 : decode b_M_init 67 = .ok (.newarray .int, 2) := by decide +kernel
theorem d_M_init_69 : decode b_M_init 69 = .ok (.putfield 37, 3) := by decide +kernel
theorem d_M_init_72 : decode b_M_init 72 = .ok (.aload_n 0, 1) := by decide +kernel
theorem d_M_init_73 : decode b_M_init 73 = .ok (.iconst (-1), 1) := by decide +kernel
theorem d_M_init_74 : decode b_M_init 74 = .ok (.putfield 40, 3) := by decide +kernel
theorem d_M_init_77 : decode b_M_init 77 = .ok (.aload_n 0, 1) := by decide +kernel
theorem d_M_init_78 : decode b_M_init 78 = .ok (.bipush 16, 2) := by decide +kernel
theorem d_M_init_80 : decode b_M_init 80 = .ok (.newarray .int, 2) := by decide +kernel
theorem d_M_init_82 : decode b_M_init 82 = .ok (.putfield 43, 3) := by decide +kernel
theorem d_M_init_85 : decode b_M_init 85 = .ok (.iconst 0, 1) := by decide +kernel
theorem d_M_init_86 : decode b_M_init 86 = .ok (.istore_n 1, 1) := by decide +kernel
theorem d_M_init_87 : decode b_M_init 87 = .ok (.iload_n 1, 1) := by decide +kernel
theorem d_M_init_88 : decode b_M_init 88 = .ok (.sipush 512, 3) := by decide +kernel
theorem d_M_init_91 : decode b_M_init 91 = .ok (.if_icmp .ge (16), 3) := by decide +kernel
theorem d_M_init_94 : decode b_M_init 94 = .ok (.aload_n 0, 1) := by decide +kernel
theorem d_M_init_95 : decode b_M_init 95 = .ok (.getfield 7, 3) := by decide +kernel
theorem d_M_init_98 : decode b_M_init 98 = .ok (.iload_n 1, 1) := by decide +kernel
theorem d_M_init_99 : decode b_M_init 99 = .ok (.iconst (-1), 1) := by decide +kernel
theorem d_M_init_100 : decode b_M_init 100 = .ok (.iastore, 1) := by decide +kernel
theorem d_M_init_101 : decode b_M_init 101 = .ok (.iinc 1 1, 3) := by decide +kernel
theorem d_M_init_104 : decode b_M_init 104 = .ok (.goto (-17), 3) := by decide +kernel
theorem d_M_init_107 : decode b_M_init 107 = .ok (.aload_n 0, 1) := by decide +kernel
theorem d_M_init_108 : decode b_M_init 108 = .ok (.invokevirtual 46, 3) := by decide +kernel
theorem d_M_init_111 : decode b_M_init 111 = .ok (.return_, 1) := by decide +kernel
