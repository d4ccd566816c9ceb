theorem nw_i (cA : ClassId) (n : Nat) : vp_cell cA (n, .inl (fun _ => 0)) = arrV cA n (fun _ => defaultValue .int) := vp_cell_i ..
theorem nw_z (cA : ClassId) (n : Nat) : vp_cell cA (n, .inl (fun _ => 0)) = arrV cA n (fun _ => defaultValue .boolean) := vp_cell_i ..
theorem nw_b (cA : ClassId) (n : Nat) : vp_cell cA (n, .inl (fun _ => 0)) = arrV cA n (fun _ => defaultValue .byte) := vp_cell_i ..
theorem nw_l (cA : ClassId) (n : Nat) : vp_cell cA (n, .inr (.inl (fun _ => 0))) = arrV cA n (fun _ => defaultValue .long) := vp_cell_l ..
abbrev b_C_init : ByteArray := prog_2_method_1_code
def y_C_init : MethodName := ⟨R_C, "<init>", "()V"⟩
def w_C_init : List Cond := .code y_C_init b_C_init 2 none :: gw
abbrev b_G_init : ByteArray := prog_4_method_1_code
def y_G_init : MethodName := ⟨R_G, "<init>", "()V"⟩
def w_G_init : List Cond := .code y_G_init b_G_init 1 none :: gw
abbrev b_N_init : ByteArray := prog_3_method_1_code
def y_N_init : MethodName := ⟨R_N, "<init>", "()V"⟩
def w_N_init : List Cond := .code y_N_init b_N_init 1 none :: gw
theorem t_21 : (.code objectInit ⟨#[0xb1]⟩ 1 none : Cond) ∈ gw := gw_in (tb_1 (List.mem_of_getElem? (i := 21) rfl)) (by first | rfl | decide +kernel)
theorem t_33 : (.methodLink R_C 3 objectInit : Cond) ∈ gw := gw_in (tb_1 (List.mem_of_getElem? (i := 33) rfl)) (by first | rfl | decide +kernel)
theorem t_20 : (.instanceMethod objectInit : Cond) ∈ gw := gw_in (tb_1 (List.mem_of_getElem? (i := 20) rfl)) (by first | rfl | decide +kernel)
theorem t_50 : (.arrayClass .int : Cond) ∈ gw := gw_in (tb_1 (List.mem_of_getElem? (i := 50) rfl)) (by first | rfl | decide +kernel)
theorem t_51 : (.arrayClass .boolean : Cond) ∈ gw := gw_in (tb_1 (List.mem_of_getElem? (i := 51) rfl)) (by first | rfl | decide +kernel)
theorem t_83 : (.methodLink R_G 3 objectInit : Cond) ∈ gw := gw_in (tb_1 (List.mem_of_getElem? (i := 83) rfl)) (by first | rfl | decide +kernel)
theorem t_84 : (.fieldLink R_G 9 R_G "words" "[I" : Cond) ∈ gw := gw_in (tb_1 (List.mem_of_getElem? (i := 84) rfl)) (by first | rfl | decide +kernel)
theorem t_85 : (.fieldLink R_G 15 R_G "recordOfTicket" "[I" : Cond) ∈ gw := gw_in (tb_1 (List.mem_of_getElem? (i := 85) rfl)) (by first | rfl | decide +kernel)
theorem t_86 : (.fieldLink R_G 18 R_G "voidedBy" "[I" : Cond) ∈ gw := gw_in (tb_1 (List.mem_of_getElem? (i := 86) rfl)) (by first | rfl | decide +kernel)
theorem t_105 : (.methodLink R_N 1 objectInit : Cond) ∈ gw := gw_in (tb_1 (List.mem_of_getElem? (i := 105) rfl)) (by first | rfl | decide +kernel)
theorem t_113 : (.arrayClass .byte : Cond) ∈ gw := gw_in (tb_1 (List.mem_of_getElem? (i := 113) rfl)) (by first | rfl | decide +kernel)
theorem t_106 : (.fieldLink R_N 9 R_N "bytes" "[B" : Cond) ∈ gw := gw_in (tb_1 (List.mem_of_getElem? (i := 106) rfl)) (by first | rfl | decide +kernel)
theorem t_107 : (.fieldLink R_N 13 R_N "used" "I" : Cond) ∈ gw := gw_in (tb_1 (List.mem_of_getElem? (i := 107) rfl)) (by first | rfl | decide +kernel)
theorem d_C_init_0 : decode b_C_init 0 = .ok (.aload_n 0, 1) := by decide +kernel
theorem d_C_init_1 : decode b_C_init 1 = .ok (.invokespecial 3, 3) := by decide +kernel
theorem d_C_init_4 : decode b_C_init 4 = .ok (.aload_n 0, 1) := by decide +kernel
theorem d_C_init_5 : decode b_C_init 5 = .ok (.sipush 512, 3) := by decide +kernel
theorem d_C_init_8 : decode b_C_init 8 = .ok (.newarray .int, 2) := by decide +kernel
theorem d_C_init_10 : decode b_C_init 10 = .ok (.putfield 9, 3) := by decide +kernel
theorem d_C_init_13 : decode b_C_init 13 = .ok (.aload_n 0, 1) := by decide +kernel
theorem d_C_init_14 : decode b_C_init 14 = .ok (.bipush 8, 2) := by decide +kernel
theorem d_C_init_16 : decode b_C_init 16 = .ok (.newarray .int, 2) := by decide +kernel
theorem d_C_init_18 : decode b_C_init 18 = .ok (.putfield 15, 3) := by decide +kernel
theorem d_C_init_21 : decode b_C_init 21 = .ok (.aload_n 0, 1) := by decide +kernel
theorem d_C_init_22 : decode b_C_init 22 = .ok (.bipush 8, 2) := by decide +kernel
theorem d_C_init_24 : decode b_C_init 24 = .ok (.newarray .boolean, 2) := by decide +kernel
theorem d_C_init_26 : decode b_C_init 26 = .ok (.putfield 18, 3) := by decide +kernel
theorem d_C_init_29 : decode b_C_init 29 = .ok (.aload_n 0, 1) := by decide +kernel
theorem d_C_init_30 : decode b_C_init 30 = .ok (.iconst 1, 1) := by decide +kernel
theorem d_C_init_31 : decode b_C_init 31 = .ok (.putfield 22, 3) := by decide +kernel
theorem d_C_init_34 : decode b_C_init 34 = .ok (.aload_n 0, 1) := by decide +kernel
theorem d_C_init_35 : decode b_C_init 35 = .ok (.iconst (-1), 1) := by decide +kernel
theorem d_C_init_36 : decode b_C_init 36 = .ok (.putfield 26, 3) := by decide +kernel
theorem d_C_init_39 : decode b_C_init 39 = .ok (.iconst 0, 1) := by decide +kernel
theorem d_C_init_40 : decode b_C_init 40 = .ok (.istore_n 1, 1) := by decide +kernel
theorem d_C_init_41 : decode b_C_init 41 = .ok (.iload_n 1, 1) := by decide +kernel
theorem d_C_init_42 : decode b_C_init 42 = .ok (.aload_n 0, 1) := by decide +kernel
theorem d_C_init_43 : decode b_C_init 43 = .ok (.getfield 9, 3) := by decide +kernel
theorem d_C_init_46 : decode b_C_init 46 = .ok (.arraylength, 1) := by decide +kernel
theorem d_C_init_47 : decode b_C_init 47 = .ok (.if_icmp .ge (16), 3) := by decide +kernel
theorem d_C_init_50 : decode b_C_init 50 = .ok (.aload_n 0, 1) := by decide +kernel
theorem d_C_init_51 : decode b_C_init 51 = .ok (.getfield 9, 3) := by decide +kernel
theorem d_C_init_54 : decode b_C_init 54 = .ok (.iload_n 1, 1) := by decide +kernel
theorem d_C_init_55 : decode b_C_init 55 = .ok (.iconst (-1), 1) := by decide +kernel
theorem d_C_init_56 : decode b_C_init 56 = .ok (.iastore, 1) := by decide +kernel
theorem d_C_init_57 : decode b_C_init 57 = .ok (.iinc 1 1, 3) := by decide +kernel
theorem d_C_init_60 : decode b_C_init 60 = .ok (.goto (-19), 3) := by decide +kernel
theorem d_C_init_63 : decode b_C_init 63 = .ok (.return_, 1) := by decide +kernel
theorem d_G_init_0 : decode b_G_init 0 = .ok (.aload_n 0, 1) := by decide +kernel
theorem d_G_init_1 : decode b_G_init 1 = .ok (.invokespecial 3, 3) := by decide +kernel
theorem d_G_init_4 : decode b_G_init 4 = .ok (.aload_n 0, 1) := by decide +kernel
theorem d_G_init_5 : decode b_G_init 5 = .ok (.sipush 192, 3) := by decide +kernel
theorem d_G_init_8 : decode b_G_init 8 = .ok (.newarray .int, 2) := by decide +kernel
theorem d_G_init_10 : decode b_G_init 10 = .ok (.putfield 9, 3) := by decide +kernel
theorem d_G_init_13 : decode b_G_init 13 = .ok (.aload_n 0, 1) := by decide +kernel
theorem d_G_init_14 : decode b_G_init 14 = .ok (.bipush 48, 2) := by decide +kernel
theorem d_G_init_16 : decode b_G_init 16 = .ok (.newarray .int, 2) := by decide +kernel
theorem d_G_init_18 : decode b_G_init 18 = .ok (.putfield 15, 3) := by decide +kernel
theorem d_G_init_21 : decode b_G_init 21 = .ok (.aload_n 0, 1) := by decide +kernel
theorem d_G_init_22 : decode b_G_init 22 = .ok (.bipush 48, 2) := by decide +kernel
theorem d_G_init_24 : decode b_G_init 24 = .ok (.newarray .int, 2) := by decide +kernel
theorem d_G_init_26 : decode b_G_init 26 = .ok (.putfield 18, 3) := by decide +kernel
theorem d_G_init_29 : decode b_G_init 29 = .ok (.aload_n 0, 1) := by decide +kernel
theorem d_G_init_30 : decode b_G_init 30 = .ok (.iconst 0, 1) := by decide +kernel
theorem d_G_init_31 : decode b_G_init 31 = .ok (.putfield 21, 3) := by decide +kernel
theorem d_G_init_34 : decode b_G_init 34 = .ok (.aload_n 0, 1) := by decide +kernel
theorem d_G_init_35 : decode b_G_init 35 = .ok (.iconst 0, 1) := by decide +kernel
theorem d_G_init_36 : decode b_G_init 36 = .ok (.putfield 25, 3) := by decide +kernel
theorem d_G_init_39 : decode b_G_init 39 = .ok (.return_, 1) := by decide +kernel
theorem d_N_init_0 : decode b_N_init 0 = .ok (.aload_n 0, 1) := by decide +kernel
theorem d_N_init_1 : decode b_N_init 1 = .ok (.invokespecial 1, 3) := by decide +kernel
theorem d_N_init_4 : decode b_N_init 4 = .ok (.aload_n 0, 1) := by decide +kernel
theorem d_N_init_5 : decode b_N_init 5 = .ok (.bipush 32, 2) := by decide +kernel
theorem d_N_init_7 : decode b_N_init 7 = .ok (.newarray .byte, 2) := by decide +kernel
theorem d_N_init_9 : decode b_N_init 9 = .ok (.putfield 9, 3) := by decide +kernel
theorem d_N_init_12 : decode b_N_init 12 = .ok (.aload_n 0, 1) := by decide +kernel
theorem d_N_init_13 : decode b_N_init 13 = .ok (.iconst 0, 1) := by decide +kernel
theorem d_N_init_14 : decode b_N_init 14 = .ok (.putfield 13, 3) := by decide +kernel
theorem d_N_init_17 : decode b_N_init 17 = .ok (.return_, 1) := by decide +kernel
