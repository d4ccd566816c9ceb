section
-- ===== PART A: goes FIRST, ahead of the names: the tables' words, and 'selects' of the private methods out of them =====
/-- a private method of a class that the tables say can be made, by its rows of tables_1 -/
def lw_okq (q : MethodName × Nat) : Prop := (q.1.cls ≠ "java/lang/invoke/MethodHandle" ∧ q.1.cls ≠ "java/lang/invoke/VarHandle") ∧ Cond.instantiable q.1.cls q.2 ∈ tables_1 ∧ Cond.privateMethod q.1 ∈ tables_1 ∧ Cond.instanceMethod q.1 ∈ tables_1
theorem lw_p0 : lw_okq (⟨"WeighRecorder", "forgetReadings", "()V"⟩, 7) := ⟨⟨by decide +kernel, by decide +kernel⟩, List.mem_of_getElem? (i := 15) (by decide +kernel), List.mem_of_getElem? (i := 149) (by decide +kernel), List.mem_of_getElem? (i := 150) (by decide +kernel)⟩
theorem lw_p1 : lw_okq (⟨"WeighRecorder$Store", "findNewestPages", "()I"⟩, 7) := ⟨⟨by decide +kernel, by decide +kernel⟩, List.mem_of_getElem? (i := 23) (by decide +kernel), List.mem_of_getElem? (i := 157) (by decide +kernel), List.mem_of_getElem? (i := 158) (by decide +kernel)⟩
theorem lw_p2 : lw_okq (⟨"WeighRecorder$Store", "newerOf", "(II)I"⟩, 7) := ⟨⟨by decide +kernel, by decide +kernel⟩, List.mem_of_getElem? (i := 23) (by decide +kernel), List.mem_of_getElem? (i := 175) (by decide +kernel), List.mem_of_getElem? (i := 176) (by decide +kernel)⟩
theorem lw_p3 : lw_okq (⟨"WeighRecorder$Store", "readLeaf", "(LWeighRecorder$Log;I)I"⟩, 7) := ⟨⟨by decide +kernel, by decide +kernel⟩, List.mem_of_getElem? (i := 23) (by decide +kernel), List.mem_of_getElem? (i := 183) (by decide +kernel), List.mem_of_getElem? (i := 184) (by decide +kernel)⟩
theorem lw_p4 : lw_okq (⟨"WeighRecorder$Log", "applyVoiding", "(II)V"⟩, 5) := ⟨⟨by decide +kernel, by decide +kernel⟩, List.mem_of_getElem? (i := 79) (by decide +kernel), List.mem_of_getElem? (i := 195) (by decide +kernel), List.mem_of_getElem? (i := 196) (by decide +kernel)⟩
theorem lw_p5 : lw_okq (⟨"WeighRecorder$Store", "isLive", "(I)Z"⟩, 7) := ⟨⟨by decide +kernel, by decide +kernel⟩, List.mem_of_getElem? (i := 23) (by decide +kernel), List.mem_of_getElem? (i := 239) (by decide +kernel), List.mem_of_getElem? (i := 240) (by decide +kernel)⟩
theorem lw_p6 : lw_okq (⟨"java/lang/Throwable", "fillInStackTrace", "(I)Ljava/lang/Throwable;"⟩, 6) := ⟨⟨by decide +kernel, by decide +kernel⟩, List.mem_of_getElem? (i := 314) (by decide +kernel), List.mem_of_getElem? (i := 312) (by decide +kernel), List.mem_of_getElem? (i := 313) (by decide +kernel)⟩
theorem lw_p7 : lw_okq (⟨"WeighRecorder", "append", "(III)I"⟩, 7) := ⟨⟨by decide +kernel, by decide +kernel⟩, List.mem_of_getElem? (i := 15) (by decide +kernel), List.mem_of_getElem? (i := 370) (by decide +kernel), List.mem_of_getElem? (i := 371) (by decide +kernel)⟩
theorem lw_p8 : lw_okq (⟨"WeighRecorder$Store", "freePageOfCursor", "()I"⟩, 7) := ⟨⟨by decide +kernel, by decide +kernel⟩, List.mem_of_getElem? (i := 23) (by decide +kernel), List.mem_of_getElem? (i := 392) (by decide +kernel), List.mem_of_getElem? (i := 393) (by decide +kernel)⟩
theorem lw_p9 : lw_okq (⟨"WeighRecorder$Store", "chooseVictim", "()I"⟩, 7) := ⟨⟨by decide +kernel, by decide +kernel⟩, List.mem_of_getElem? (i := 23) (by decide +kernel), List.mem_of_getElem? (i := 412) (by decide +kernel), List.mem_of_getElem? (i := 413) (by decide +kernel)⟩
theorem lw_p10 : lw_okq (⟨"WeighRecorder$Store", "stalePagesOf", "(I)I"⟩, 7) := ⟨⟨by decide +kernel, by decide +kernel⟩, List.mem_of_getElem? (i := 23) (by decide +kernel), List.mem_of_getElem? (i := 416) (by decide +kernel), List.mem_of_getElem? (i := 417) (by decide +kernel)⟩
theorem lw_p11 : lw_okq (⟨"WeighRecorder$Store", "reclaim", "(I)I"⟩, 7) := ⟨⟨by decide +kernel, by decide +kernel⟩, List.mem_of_getElem? (i := 23) (by decide +kernel), List.mem_of_getElem? (i := 421) (by decide +kernel), List.mem_of_getElem? (i := 422) (by decide +kernel)⟩
theorem lw_p12 : lw_okq (⟨"WeighRecorder$Store", "hasLivePages", "(I)Z"⟩, 7) := ⟨⟨by decide +kernel, by decide +kernel⟩, List.mem_of_getElem? (i := 23) (by decide +kernel), List.mem_of_getElem? (i := 425) (by decide +kernel), List.mem_of_getElem? (i := 426) (by decide +kernel)⟩
theorem lw_p13 : lw_okq (⟨"WeighRecorder$Chip", "mayStep", "()Z"⟩, 5) := ⟨⟨by decide +kernel, by decide +kernel⟩, List.mem_of_getElem? (i := 29) (by decide +kernel), List.mem_of_getElem? (i := 433) (by decide +kernel), List.mem_of_getElem? (i := 434) (by decide +kernel)⟩
theorem lw_p14 : lw_okq (⟨"WeighRecorder$Store", "evacuate", "(I)I"⟩, 7) := ⟨⟨by decide +kernel, by decide +kernel⟩, List.mem_of_getElem? (i := 23) (by decide +kernel), List.mem_of_getElem? (i := 441) (by decide +kernel), List.mem_of_getElem? (i := 442) (by decide +kernel)⟩
theorem lw_p15 : lw_okq (⟨"WeighRecorder$Store", "rewritePage", "(II)Z"⟩, 7) := ⟨⟨by decide +kernel, by decide +kernel⟩, List.mem_of_getElem? (i := 23) (by decide +kernel), List.mem_of_getElem? (i := 445) (by decide +kernel), List.mem_of_getElem? (i := 446) (by decide +kernel)⟩
def lw_privs_1 : List (MethodName × Nat) := [(⟨"WeighRecorder", "forgetReadings", "()V"⟩, 7), (⟨"WeighRecorder$Store", "findNewestPages", "()I"⟩, 7), (⟨"WeighRecorder$Store", "newerOf", "(II)I"⟩, 7), (⟨"WeighRecorder$Store", "readLeaf", "(LWeighRecorder$Log;I)I"⟩, 7), (⟨"WeighRecorder$Log", "applyVoiding", "(II)V"⟩, 5), (⟨"WeighRecorder$Store", "isLive", "(I)Z"⟩, 7), (⟨"java/lang/Throwable", "fillInStackTrace", "(I)Ljava/lang/Throwable;"⟩, 6), (⟨"WeighRecorder", "append", "(III)I"⟩, 7), (⟨"WeighRecorder$Store", "freePageOfCursor", "()I"⟩, 7), (⟨"WeighRecorder$Store", "chooseVictim", "()I"⟩, 7), (⟨"WeighRecorder$Store", "stalePagesOf", "(I)I"⟩, 7), (⟨"WeighRecorder$Store", "reclaim", "(I)I"⟩, 7), (⟨"WeighRecorder$Store", "hasLivePages", "(I)Z"⟩, 7), (⟨"WeighRecorder$Chip", "mayStep", "()Z"⟩, 5), (⟨"WeighRecorder$Store", "evacuate", "(I)I"⟩, 7), (⟨"WeighRecorder$Store", "rewritePage", "(II)Z"⟩, 7)]
theorem lw_r1 : ∀ q ∈ lw_privs_1, lw_okq q := List.forall_mem_cons.mpr ⟨lw_p0, List.forall_mem_cons.mpr ⟨lw_p1, List.forall_mem_cons.mpr ⟨lw_p2, List.forall_mem_cons.mpr ⟨lw_p3, List.forall_mem_cons.mpr ⟨lw_p4, List.forall_mem_cons.mpr ⟨lw_p5, List.forall_mem_cons.mpr ⟨lw_p6, List.forall_mem_cons.mpr ⟨lw_p7, List.forall_mem_cons.mpr ⟨lw_p8, List.forall_mem_cons.mpr ⟨lw_p9, List.forall_mem_cons.mpr ⟨lw_p10, List.forall_mem_cons.mpr ⟨lw_p11, List.forall_mem_cons.mpr ⟨lw_p12, List.forall_mem_cons.mpr ⟨lw_p13, List.forall_mem_cons.mpr ⟨lw_p14, List.forall_mem_cons.mpr ⟨lw_p15, fun _ h => absurd h List.not_mem_nil⟩⟩⟩⟩⟩⟩⟩⟩⟩⟩⟩⟩⟩⟩⟩⟩
theorem lw_p16 : lw_okq (⟨"WeighRecorder$Store", "sealRow", "()V"⟩, 7) := ⟨⟨by decide +kernel, by decide +kernel⟩, List.mem_of_getElem? (i := 23) (by decide +kernel), List.mem_of_getElem? (i := 449) (by decide +kernel), List.mem_of_getElem? (i := 450) (by decide +kernel)⟩
theorem lw_p17 : lw_okq (⟨"WeighRecorder$Log", "wordOf", "(II)I"⟩, 5) := ⟨⟨by decide +kernel, by decide +kernel⟩, List.mem_of_getElem? (i := 79) (by decide +kernel), List.mem_of_getElem? (i := 514) (by decide +kernel), List.mem_of_getElem? (i := 515) (by decide +kernel)⟩
theorem lw_p18 : lw_okq (⟨"WeighRecorder$Store", "sumBefore", "(I)I"⟩, 7) := ⟨⟨by decide +kernel, by decide +kernel⟩, List.mem_of_getElem? (i := 23) (by decide +kernel), List.mem_of_getElem? (i := 597) (by decide +kernel), List.mem_of_getElem? (i := 598) (by decide +kernel)⟩
theorem lw_p19 : lw_okq (⟨"WeighRecorder$Line", "addNumber", "(I)V"⟩, 2) := ⟨⟨by decide +kernel, by decide +kernel⟩, List.mem_of_getElem? (i := 101) (by decide +kernel), List.mem_of_getElem? (i := 616) (by decide +kernel), List.mem_of_getElem? (i := 617) (by decide +kernel)⟩
theorem lw_p20 : lw_okq (⟨"WeighRecorder$Line", "addByte", "(I)V"⟩, 2) := ⟨⟨by decide +kernel, by decide +kernel⟩, List.mem_of_getElem? (i := 101) (by decide +kernel), List.mem_of_getElem? (i := 620) (by decide +kernel), List.mem_of_getElem? (i := 621) (by decide +kernel)⟩
theorem lw_p21 : lw_okq (⟨"WeighRecorderModel", "forget", "()V"⟩, 20) := ⟨⟨by decide +kernel, by decide +kernel⟩, List.mem_of_getElem? (i := 703) (by decide +kernel), List.mem_of_getElem? (i := 709) (by decide +kernel), List.mem_of_getElem? (i := 710) (by decide +kernel)⟩
theorem lw_p22 : lw_okq (⟨"WeighRecorderModel", "fails", "(IZ)Z"⟩, 20) := ⟨⟨by decide +kernel, by decide +kernel⟩, List.mem_of_getElem? (i := 703) (by decide +kernel), List.mem_of_getElem? (i := 785) (by decide +kernel), List.mem_of_getElem? (i := 786) (by decide +kernel)⟩
theorem lw_p23 : lw_okq (⟨"WeighRecorderModel", "take", "(III)I"⟩, 20) := ⟨⟨by decide +kernel, by decide +kernel⟩, List.mem_of_getElem? (i := 703) (by decide +kernel), List.mem_of_getElem? (i := 797) (by decide +kernel), List.mem_of_getElem? (i := 798) (by decide +kernel)⟩
theorem lw_p24 : lw_okq (⟨"WeighRecorderModel", "sumOf", "([III)I"⟩, 20) := ⟨⟨by decide +kernel, by decide +kernel⟩, List.mem_of_getElem? (i := 703) (by decide +kernel), List.mem_of_getElem? (i := 801) (by decide +kernel), List.mem_of_getElem? (i := 802) (by decide +kernel)⟩
theorem lw_p25 : lw_okq (⟨"WeighRecorderModel", "writeLeaf", "(II)I"⟩, 20) := ⟨⟨by decide +kernel, by decide +kernel⟩, List.mem_of_getElem? (i := 703) (by decide +kernel), List.mem_of_getElem? (i := 809) (by decide +kernel), List.mem_of_getElem? (i := 810) (by decide +kernel)⟩
theorem lw_p26 : lw_okq (⟨"WeighRecorderModel", "makeRoom", "()I"⟩, 20) := ⟨⟨by decide +kernel, by decide +kernel⟩, List.mem_of_getElem? (i := 703) (by decide +kernel), List.mem_of_getElem? (i := 813) (by decide +kernel), List.mem_of_getElem? (i := 814) (by decide +kernel)⟩
theorem lw_p27 : lw_okq (⟨"WeighRecorderModel", "firstFree", "(I)I"⟩, 20) := ⟨⟨by decide +kernel, by decide +kernel⟩, List.mem_of_getElem? (i := 703) (by decide +kernel), List.mem_of_getElem? (i := 817) (by decide +kernel), List.mem_of_getElem? (i := 818) (by decide +kernel)⟩
theorem lw_p28 : lw_okq (⟨"WeighRecorderModel", "isFree", "(I)Z"⟩, 20) := ⟨⟨by decide +kernel, by decide +kernel⟩, List.mem_of_getElem? (i := 703) (by decide +kernel), List.mem_of_getElem? (i := 821) (by decide +kernel), List.mem_of_getElem? (i := 822) (by decide +kernel)⟩
theorem lw_p29 : lw_okq (⟨"WeighRecorderModel", "isClean", "(I)Z"⟩, 20) := ⟨⟨by decide +kernel, by decide +kernel⟩, List.mem_of_getElem? (i := 703) (by decide +kernel), List.mem_of_getElem? (i := 825) (by decide +kernel), List.mem_of_getElem? (i := 826) (by decide +kernel)⟩
theorem lw_p30 : lw_okq (⟨"WeighRecorderModel", "victim", "()I"⟩, 20) := ⟨⟨by decide +kernel, by decide +kernel⟩, List.mem_of_getElem? (i := 703) (by decide +kernel), List.mem_of_getElem? (i := 829) (by decide +kernel), List.mem_of_getElem? (i := 830) (by decide +kernel)⟩
theorem lw_p31 : lw_okq (⟨"WeighRecorderModel", "staleOf", "(I)I"⟩, 20) := ⟨⟨by decide +kernel, by decide +kernel⟩, List.mem_of_getElem? (i := 703) (by decide +kernel), List.mem_of_getElem? (i := 833) (by decide +kernel), List.mem_of_getElem? (i := 834) (by decide +kernel)⟩
def lw_privs_2 : List (MethodName × Nat) := [(⟨"WeighRecorder$Store", "sealRow", "()V"⟩, 7), (⟨"WeighRecorder$Log", "wordOf", "(II)I"⟩, 5), (⟨"WeighRecorder$Store", "sumBefore", "(I)I"⟩, 7), (⟨"WeighRecorder$Line", "addNumber", "(I)V"⟩, 2), (⟨"WeighRecorder$Line", "addByte", "(I)V"⟩, 2), (⟨"WeighRecorderModel", "forget", "()V"⟩, 20), (⟨"WeighRecorderModel", "fails", "(IZ)Z"⟩, 20), (⟨"WeighRecorderModel", "take", "(III)I"⟩, 20), (⟨"WeighRecorderModel", "sumOf", "([III)I"⟩, 20), (⟨"WeighRecorderModel", "writeLeaf", "(II)I"⟩, 20), (⟨"WeighRecorderModel", "makeRoom", "()I"⟩, 20), (⟨"WeighRecorderModel", "firstFree", "(I)I"⟩, 20), (⟨"WeighRecorderModel", "isFree", "(I)Z"⟩, 20), (⟨"WeighRecorderModel", "isClean", "(I)Z"⟩, 20), (⟨"WeighRecorderModel", "victim", "()I"⟩, 20), (⟨"WeighRecorderModel", "staleOf", "(I)I"⟩, 20)]
theorem lw_r2 : ∀ q ∈ lw_privs_2, lw_okq q := List.forall_mem_cons.mpr ⟨lw_p16, List.forall_mem_cons.mpr ⟨lw_p17, List.forall_mem_cons.mpr ⟨lw_p18, List.forall_mem_cons.mpr ⟨lw_p19, List.forall_mem_cons.mpr ⟨lw_p20, List.forall_mem_cons.mpr ⟨lw_p21, List.forall_mem_cons.mpr ⟨lw_p22, List.forall_mem_cons.mpr ⟨lw_p23, List.forall_mem_cons.mpr ⟨lw_p24, List.forall_mem_cons.mpr ⟨lw_p25, List.forall_mem_cons.mpr ⟨lw_p26, List.forall_mem_cons.mpr ⟨lw_p27, List.forall_mem_cons.mpr ⟨lw_p28, List.forall_mem_cons.mpr ⟨lw_p29, List.forall_mem_cons.mpr ⟨lw_p30, List.forall_mem_cons.mpr ⟨lw_p31, fun _ h => absurd h List.not_mem_nil⟩⟩⟩⟩⟩⟩⟩⟩⟩⟩⟩⟩⟩⟩⟩⟩
theorem lw_p32 : lw_okq (⟨"WeighRecorderModel", "isLive", "(I)Z"⟩, 20) := ⟨⟨by decide +kernel, by decide +kernel⟩, List.mem_of_getElem? (i := 703) (by decide +kernel), List.mem_of_getElem? (i := 837) (by decide +kernel), List.mem_of_getElem? (i := 838) (by decide +kernel)⟩
theorem lw_p33 : lw_okq (⟨"WeighRecorderModel", "move", "(I)Z"⟩, 20) := ⟨⟨by decide +kernel, by decide +kernel⟩, List.mem_of_getElem? (i := 703) (by decide +kernel), List.mem_of_getElem? (i := 841) (by decide +kernel), List.mem_of_getElem? (i := 842) (by decide +kernel)⟩
theorem lw_p34 : lw_okq (⟨"WeighRecorderModel", "write", "(II)Z"⟩, 20) := ⟨⟨by decide +kernel, by decide +kernel⟩, List.mem_of_getElem? (i := 703) (by decide +kernel), List.mem_of_getElem? (i := 845) (by decide +kernel), List.mem_of_getElem? (i := 846) (by decide +kernel)⟩
theorem lw_p35 : lw_okq (⟨"WeighRecorderModel", "step", "()Z"⟩, 20) := ⟨⟨by decide +kernel, by decide +kernel⟩, List.mem_of_getElem? (i := 703) (by decide +kernel), List.mem_of_getElem? (i := 850) (by decide +kernel), List.mem_of_getElem? (i := 851) (by decide +kernel)⟩
theorem lw_p36 : lw_okq (⟨"WeighRecorderModel", "off", "()V"⟩, 20) := ⟨⟨by decide +kernel, by decide +kernel⟩, List.mem_of_getElem? (i := 703) (by decide +kernel), List.mem_of_getElem? (i := 854) (by decide +kernel), List.mem_of_getElem? (i := 855) (by decide +kernel)⟩
theorem lw_p37 : lw_okq (⟨"WeighRecorderModel", "erase", "(I)Z"⟩, 20) := ⟨⟨by decide +kernel, by decide +kernel⟩, List.mem_of_getElem? (i := 703) (by decide +kernel), List.mem_of_getElem? (i := 858) (by decide +kernel), List.mem_of_getElem? (i := 859) (by decide +kernel)⟩
theorem lw_p38 : lw_okq (⟨"WeighRecorderModel", "livesOf", "(I)I"⟩, 20) := ⟨⟨by decide +kernel, by decide +kernel⟩, List.mem_of_getElem? (i := 703) (by decide +kernel), List.mem_of_getElem? (i := 862) (by decide +kernel), List.mem_of_getElem? (i := 863) (by decide +kernel)⟩
theorem lw_p39 : lw_okq (⟨"WeighRecorderModel", "tickets", "()I"⟩, 20) := ⟨⟨by decide +kernel, by decide +kernel⟩, List.mem_of_getElem? (i := 703) (by decide +kernel), List.mem_of_getElem? (i := 866) (by decide +kernel), List.mem_of_getElem? (i := 867) (by decide +kernel)⟩
theorem lw_p40 : lw_okq (⟨"WeighRecorderModel", "isVoiding", "(I)Z"⟩, 20) := ⟨⟨by decide +kernel, by decide +kernel⟩, List.mem_of_getElem? (i := 703) (by decide +kernel), List.mem_of_getElem? (i := 870) (by decide +kernel), List.mem_of_getElem? (i := 871) (by decide +kernel)⟩
theorem lw_p41 : lw_okq (⟨"WeighRecorderModel", "at", "(II)I"⟩, 20) := ⟨⟨by decide +kernel, by decide +kernel⟩, List.mem_of_getElem? (i := 703) (by decide +kernel), List.mem_of_getElem? (i := 874) (by decide +kernel), List.mem_of_getElem? (i := 875) (by decide +kernel)⟩
theorem lw_p42 : lw_okq (⟨"WeighRecorderModel", "placeOf", "(I)I"⟩, 20) := ⟨⟨by decide +kernel, by decide +kernel⟩, List.mem_of_getElem? (i := 703) (by decide +kernel), List.mem_of_getElem? (i := 882) (by decide +kernel), List.mem_of_getElem? (i := 883) (by decide +kernel)⟩
theorem lw_p43 : lw_okq (⟨"WeighRecorderModel", "voided", "(I)I"⟩, 20) := ⟨⟨by decide +kernel, by decide +kernel⟩, List.mem_of_getElem? (i := 703) (by decide +kernel), List.mem_of_getElem? (i := 886) (by decide +kernel), List.mem_of_getElem? (i := 887) (by decide +kernel)⟩
theorem lw_p44 : lw_okq (⟨"WeighRecorderModel", "durable", "()I"⟩, 20) := ⟨⟨by decide +kernel, by decide +kernel⟩, List.mem_of_getElem? (i := 703) (by decide +kernel), List.mem_of_getElem? (i := 895) (by decide +kernel), List.mem_of_getElem? (i := 896) (by decide +kernel)⟩
theorem lw_p45 : lw_okq (⟨"WeighRecorderModel", "net", "(I)I"⟩, 20) := ⟨⟨by decide +kernel, by decide +kernel⟩, List.mem_of_getElem? (i := 703) (by decide +kernel), List.mem_of_getElem? (i := 908) (by decide +kernel), List.mem_of_getElem? (i := 909) (by decide +kernel)⟩
theorem lw_p46 : lw_okq (⟨"WeighRecorderModel", "isBad", "(I)Z"⟩, 20) := ⟨⟨by decide +kernel, by decide +kernel⟩, List.mem_of_getElem? (i := 703) (by decide +kernel), List.mem_of_getElem? (i := 924) (by decide +kernel), List.mem_of_getElem? (i := 925) (by decide +kernel)⟩
theorem lw_p47 : lw_okq (⟨"WeighRecorderModel", "isRight", "(I)Z"⟩, 20) := ⟨⟨by decide +kernel, by decide +kernel⟩, List.mem_of_getElem? (i := 703) (by decide +kernel), List.mem_of_getElem? (i := 928) (by decide +kernel), List.mem_of_getElem? (i := 929) (by decide +kernel)⟩
def lw_privs_3 : List (MethodName × Nat) := [(⟨"WeighRecorderModel", "isLive", "(I)Z"⟩, 20), (⟨"WeighRecorderModel", "move", "(I)Z"⟩, 20), (⟨"WeighRecorderModel", "write", "(II)Z"⟩, 20), (⟨"WeighRecorderModel", "step", "()Z"⟩, 20), (⟨"WeighRecorderModel", "off", "()V"⟩, 20), (⟨"WeighRecorderModel", "erase", "(I)Z"⟩, 20), (⟨"WeighRecorderModel", "livesOf", "(I)I"⟩, 20), (⟨"WeighRecorderModel", "tickets", "()I"⟩, 20), (⟨"WeighRecorderModel", "isVoiding", "(I)Z"⟩, 20), (⟨"WeighRecorderModel", "at", "(II)I"⟩, 20), (⟨"WeighRecorderModel", "placeOf", "(I)I"⟩, 20), (⟨"WeighRecorderModel", "voided", "(I)I"⟩, 20), (⟨"WeighRecorderModel", "durable", "()I"⟩, 20), (⟨"WeighRecorderModel", "net", "(I)I"⟩, 20), (⟨"WeighRecorderModel", "isBad", "(I)Z"⟩, 20), (⟨"WeighRecorderModel", "isRight", "(I)Z"⟩, 20)]
theorem lw_r3 : ∀ q ∈ lw_privs_3, lw_okq q := List.forall_mem_cons.mpr ⟨lw_p32, List.forall_mem_cons.mpr ⟨lw_p33, List.forall_mem_cons.mpr ⟨lw_p34, List.forall_mem_cons.mpr ⟨lw_p35, List.forall_mem_cons.mpr ⟨lw_p36, List.forall_mem_cons.mpr ⟨lw_p37, List.forall_mem_cons.mpr ⟨lw_p38, List.forall_mem_cons.mpr ⟨lw_p39, List.forall_mem_cons.mpr ⟨lw_p40, List.forall_mem_cons.mpr ⟨lw_p41, List.forall_mem_cons.mpr ⟨lw_p42, List.forall_mem_cons.mpr ⟨lw_p43, List.forall_mem_cons.mpr ⟨lw_p44, List.forall_mem_cons.mpr ⟨lw_p45, List.forall_mem_cons.mpr ⟨lw_p46, List.forall_mem_cons.mpr ⟨lw_p47, fun _ h => absurd h List.not_mem_nil⟩⟩⟩⟩⟩⟩⟩⟩⟩⟩⟩⟩⟩⟩⟩⟩
theorem lw_p48 : lw_okq (⟨"WeighRecorderModel", "onChip", "(I)I"⟩, 20) := ⟨⟨by decide +kernel, by decide +kernel⟩, List.mem_of_getElem? (i := 703) (by decide +kernel), List.mem_of_getElem? (i := 932) (by decide +kernel), List.mem_of_getElem? (i := 933) (by decide +kernel)⟩
theorem lw_p49 : lw_okq (⟨"WeighRecorderModel", "sayNumber", "(J)V"⟩, 20) := ⟨⟨by decide +kernel, by decide +kernel⟩, List.mem_of_getElem? (i := 703) (by decide +kernel), List.mem_of_getElem? (i := 940) (by decide +kernel), List.mem_of_getElem? (i := 941) (by decide +kernel)⟩
theorem lw_p50 : lw_okq (⟨"WeighRecorderModel", "say", "(I)V"⟩, 20) := ⟨⟨by decide +kernel, by decide +kernel⟩, List.mem_of_getElem? (i := 703) (by decide +kernel), List.mem_of_getElem? (i := 944) (by decide +kernel), List.mem_of_getElem? (i := 945) (by decide +kernel)⟩
theorem lw_p51 : lw_okq (⟨"WeighRecorderModel", "latest", "(I)I"⟩, 20) := ⟨⟨by decide +kernel, by decide +kernel⟩, List.mem_of_getElem? (i := 703) (by decide +kernel), List.mem_of_getElem? (i := 967) (by decide +kernel), List.mem_of_getElem? (i := 968) (by decide +kernel)⟩
theorem lw_p52 : lw_okq (⟨"WeighRecorderModel", "liveCount", "()I"⟩, 20) := ⟨⟨by decide +kernel, by decide +kernel⟩, List.mem_of_getElem? (i := 703) (by decide +kernel), List.mem_of_getElem? (i := 991) (by decide +kernel), List.mem_of_getElem? (i := 992) (by decide +kernel)⟩
theorem lw_p53 : lw_okq (⟨"WeighRecorderModel", "freePages", "()I"⟩, 20) := ⟨⟨by decide +kernel, by decide +kernel⟩, List.mem_of_getElem? (i := 703) (by decide +kernel), List.mem_of_getElem? (i := 995) (by decide +kernel), List.mem_of_getElem? (i := 996) (by decide +kernel)⟩
def lw_privs_4 : List (MethodName × Nat) := [(⟨"WeighRecorderModel", "onChip", "(I)I"⟩, 20), (⟨"WeighRecorderModel", "sayNumber", "(J)V"⟩, 20), (⟨"WeighRecorderModel", "say", "(I)V"⟩, 20), (⟨"WeighRecorderModel", "latest", "(I)I"⟩, 20), (⟨"WeighRecorderModel", "liveCount", "()I"⟩, 20), (⟨"WeighRecorderModel", "freePages", "()I"⟩, 20)]
theorem lw_r4 : ∀ q ∈ lw_privs_4, lw_okq q := List.forall_mem_cons.mpr ⟨lw_p48, List.forall_mem_cons.mpr ⟨lw_p49, List.forall_mem_cons.mpr ⟨lw_p50, List.forall_mem_cons.mpr ⟨lw_p51, List.forall_mem_cons.mpr ⟨lw_p52, List.forall_mem_cons.mpr ⟨lw_p53, fun _ h => absurd h List.not_mem_nil⟩⟩⟩⟩⟩⟩
def lw_privs : List (MethodName × Nat) := lw_privs_1 ++ (lw_privs_2 ++ (lw_privs_3 ++ (lw_privs_4)))
def lw_tbl : List Cond := k2_sels lw_privs ++ tables_1
theorem lw_privs_ok : ∀ q ∈ lw_privs, lw_okq q := by
  show ∀ q ∈ lw_privs_1 ++ (lw_privs_2 ++ (lw_privs_3 ++ (lw_privs_4))), lw_okq q
  exact List.forall_mem_append.mpr ⟨lw_r1, List.forall_mem_append.mpr ⟨lw_r2, List.forall_mem_append.mpr ⟨lw_r3, lw_r4⟩⟩⟩
end
section
def R_C : String := "WeighRecorder$Chip"
def F_C : u_T := fun k => match k with
  | 0 => ("WeighRecorder$Chip", "words", "[I", true)
  | 1 => ("WeighRecorder$Chip", "wear", "[I", true)
  | 2 => ("WeighRecorder$Chip", "failed", "[Z", true)
  | 3 => ("WeighRecorder$Chip", "powered", "Z", false)
  | _ => ("WeighRecorder$Chip", "stepsToCut", "I", false)
def t_C : Nat → FieldType := fun k => match k with
  | 0 => .array .int
  | 1 => .array .int
  | 2 => .array .boolean
  | 3 => .boolean
  | _ => .int
theorem nm_C : ∀ a, a < 5 → ∀ b, b < 5 → a ≠ b → (F_C a).2.1 ≠ (F_C b).2.1 := by decide +kernel
theorem ok_C : ∀ k, k < 5 → parseFieldDescriptor (F_C k).2.2.1 = some (t_C k) := by decide +kernel
def R_N : String := "WeighRecorder$Line"
def F_N : u_T := fun k => match k with
  | 0 => ("WeighRecorder$Line", "bytes", "[B", true)
  | _ => ("WeighRecorder$Line", "used", "I", false)
def t_N : Nat → FieldType := fun k => match k with
  | 0 => .array .byte
  | _ => .int
theorem nm_N : ∀ a, a < 2 → ∀ b, b < 2 → a ≠ b → (F_N a).2.1 ≠ (F_N b).2.1 := by decide +kernel
theorem ok_N : ∀ k, k < 2 → parseFieldDescriptor (F_N k).2.2.1 = some (t_N k) := by decide +kernel
def R_G : String := "WeighRecorder$Log"
def F_G : u_T := fun k => match k with
  | 0 => ("WeighRecorder$Log", "words", "[I", true)
  | 1 => ("WeighRecorder$Log", "recordOfTicket", "[I", true)
  | 2 => ("WeighRecorder$Log", "voidedBy", "[I", true)
  | 3 => ("WeighRecorder$Log", "records", "I", false)
  | _ => ("WeighRecorder$Log", "tickets", "I", false)
def t_G : Nat → FieldType := fun k => match k with
  | 0 => .array .int
  | 1 => .array .int
  | 2 => .array .int
  | 3 => .int
  | _ => .int
theorem nm_G : ∀ a, a < 5 → ∀ b, b < 5 → a ≠ b → (F_G a).2.1 ≠ (F_G b).2.1 := by decide +kernel
theorem ok_G : ∀ k, k < 5 → parseFieldDescriptor (F_G k).2.2.1 = some (t_G k) := by decide +kernel
def R_S : String := "WeighRecorder$Store"
def F_S : u_T := fun k => match k with
  | 0 => ("WeighRecorder$Store", "chip", "LWeighRecorder$Chip;", true)
  | 1 => ("WeighRecorder$Store", "livePages", "[I", true)
  | 2 => ("WeighRecorder$Store", "row", "[I", true)
  | 3 => ("WeighRecorder$Store", "cursor", "I", false)
  | 4 => ("WeighRecorder$Store", "serial", "I", false)
  | 5 => ("WeighRecorder$Store", "durable", "I", false)
  | _ => ("WeighRecorder$Store", "wornOut", "Z", false)
def t_S : Nat → FieldType := fun k => match k with
  | 0 => .object "WeighRecorder$Chip"
  | 1 => .array .int
  | 2 => .array .int
  | 3 => .int
  | 4 => .int
  | 5 => .int
  | _ => .boolean
theorem nm_S : ∀ a, a < 7 → ∀ b, b < 7 → a ≠ b → (F_S a).2.1 ≠ (F_S b).2.1 := by decide +kernel
theorem ok_S : ∀ k, k < 7 → parseFieldDescriptor (F_S k).2.2.1 = some (t_S k) := by decide +kernel
def R_R : String := "WeighRecorder"
def F_R : u_T := fun k => match k with
  | 0 => ("WeighRecorder", "store", "LWeighRecorder$Store;", true)
  | 1 => ("WeighRecorder", "chip", "LWeighRecorder$Chip;", true)
  | 2 => ("WeighRecorder", "log", "LWeighRecorder$Log;", true)
  | 3 => ("WeighRecorder", "line", "LWeighRecorder$Line;", true)
  | 4 => ("WeighRecorder", "active", "[Z", true)
  | 5 => ("WeighRecorder", "readings", "I", false)
  | _ => ("WeighRecorder", "readSteps", "I", false)
def t_R : Nat → FieldType := fun k => match k with
  | 0 => .object "WeighRecorder$Store"
  | 1 => .object "WeighRecorder$Chip"
  | 2 => .object "WeighRecorder$Log"
  | 3 => .object "WeighRecorder$Line"
  | 4 => .array .boolean
  | 5 => .int
  | _ => .int
theorem nm_R : ∀ a, a < 7 → ∀ b, b < 7 → a ≠ b → (F_R a).2.1 ≠ (F_R b).2.1 := by decide +kernel
theorem ok_R : ∀ k, k < 7 → parseFieldDescriptor (F_R k).2.2.1 = some (t_R k) := by decide +kernel
def R_M : String := "WeighRecorderModel"
def F_M : u_T := fun k => match k with
  | 0 => ("WeighRecorderModel", "thrown", "I", false)
  | 1 => ("WeighRecorderModel", "chip", "[I", true)
  | 2 => ("WeighRecorderModel", "wear", "[I", true)
  | 3 => ("WeighRecorderModel", "failed", "[Z", true)
  | 4 => ("WeighRecorderModel", "active", "[Z", true)
  | 5 => ("WeighRecorderModel", "on", "Z", false)
  | 6 => ("WeighRecorderModel", "cut", "I", false)
  | 7 => ("WeighRecorderModel", "records", "I", false)
  | 8 => ("WeighRecorderModel", "log", "[I", true)
  | 9 => ("WeighRecorderModel", "live", "[I", true)
  | 10 => ("WeighRecorderModel", "had", "[I", true)
  | 11 => ("WeighRecorderModel", "serial", "I", false)
  | 12 => ("WeighRecorderModel", "cursor", "I", false)
  | 13 => ("WeighRecorderModel", "readings", "I", false)
  | 14 => ("WeighRecorderModel", "weight", "I", false)
  | 15 => ("WeighRecorderModel", "worn", "Z", false)
  | 16 => ("WeighRecorderModel", "page", "[I", true)
  | 17 => ("WeighRecorderModel", "place", "I", false)
  | 18 => ("WeighRecorderModel", "sought", "I", false)
  | _ => ("WeighRecorderModel", "found", "I", false)
def t_M : Nat → FieldType := fun k => match k with
  | 0 => .int
  | 1 => .array .int
  | 2 => .array .int
  | 3 => .array .boolean
  | 4 => .array .boolean
  | 5 => .boolean
  | 6 => .int
  | 7 => .int
  | 8 => .array .int
  | 9 => .array .int
  | 10 => .array .int
  | 11 => .int
  | 12 => .int
  | 13 => .int
  | 14 => .int
  | 15 => .boolean
  | 16 => .array .int
  | 17 => .int
  | 18 => .int
  | _ => .int
theorem nm_M : ∀ a, a < 20 → ∀ b, b < 20 → a ≠ b → (F_M a).2.1 ≠ (F_M b).2.1 := by decide +kernel
theorem ok_M : ∀ k, k < 20 → parseFieldDescriptor (F_M k).2.2.1 = some (t_M k) := by decide +kernel
def R_L : String := "WeighRecorderLaw"
abbrev vwCl : List vw_C := [(R_C, F_C, 5), (R_N, F_N, 2), (R_G, F_G, 5), (R_S, F_S, 7), (R_R, F_R, 7), (R_M, F_M, 20)]
/-- the tables' good words -/
def gw : List Cond := lw_tbl.filter goodWord
theorem gw_in {w : Cond} (h : w ∈ lw_tbl) (g : goodWord w = true) : w ∈ gw := List.mem_filter.mpr ⟨h, g⟩
theorem gw_good {w : Cond} (h : w ∈ gw) : goodWord w = true := (List.mem_filter.mp h).2
theorem gw_of {w : Cond} (h : w ∈ gw) : w ∈ lw_tbl := (List.mem_filter.mp h).1
theorem tb_1 {w : Cond} (h : w ∈ tables_1_1) : w ∈ lw_tbl := List.mem_append_right _ (show w ∈ tables_1 from List.mem_append_left _ h)
theorem tb_2 {w : Cond} (h : w ∈ tables_1_2) : w ∈ lw_tbl := List.mem_append_right _ (show w ∈ tables_1 from List.mem_append_right _ (List.mem_append_left _ h))
theorem tb_3 {w : Cond} (h : w ∈ tables_1_3) : w ∈ lw_tbl := List.mem_append_right _ (show w ∈ tables_1 from List.mem_append_right _ (List.mem_append_right _ (List.mem_append_left _ h)))
theorem tb_4 {w : Cond} (h : w ∈ tables_1_4) : w ∈ lw_tbl := List.mem_append_right _ (show w ∈ tables_1 from List.mem_append_right _ (List.mem_append_right _ (List.mem_append_right _ (List.mem_append_left _ h))))
theorem tb_5 {w : Cond} (h : w ∈ tables_1_5) : w ∈ lw_tbl := List.mem_append_right _ (show w ∈ tables_1 from List.mem_append_right _ (List.mem_append_right _ (List.mem_append_right _ (List.mem_append_right _ (h)))))
theorem tb_s {q : MethodName × Nat} (h : q ∈ lw_privs) : Cond.selects q.1.cls q.1 q.1 ∈ lw_tbl := List.mem_append_left _ (List.mem_map.mpr ⟨q, h, rfl⟩)
theorem in_C : ∀ w ∈ u_ws R_C F_C 5, w ∈ gw := by
  intro w h
  obtain ⟨k, hk, rfl⟩ := List.mem_map.mp h
  have hk := List.mem_range.mp hk
  rcases (show k = 0 ∨ k = 1 ∨ k = 2 ∨ k = 3 ∨ k = 4 by omega) with rfl | rfl | rfl | rfl | rfl
  · exact gw_in (tb_1 (List.mem_of_getElem? (i := 39) rfl)) (by decide +kernel)
  · exact gw_in (tb_1 (List.mem_of_getElem? (i := 41) rfl)) (by decide +kernel)
  · exact gw_in (tb_1 (List.mem_of_getElem? (i := 43) rfl)) (by decide +kernel)
  · exact gw_in (tb_1 (List.mem_of_getElem? (i := 45) rfl)) (by decide +kernel)
  · exact gw_in (tb_1 (List.mem_of_getElem? (i := 47) rfl)) (by decide +kernel)
theorem in_N : ∀ w ∈ u_ws R_N F_N 2, w ∈ gw := by
  intro w h
  obtain ⟨k, hk, rfl⟩ := List.mem_map.mp h
  have hk := List.mem_range.mp hk
  rcases (show k = 0 ∨ k = 1 by omega) with rfl | rfl
  · exact gw_in (tb_1 (List.mem_of_getElem? (i := 108) rfl)) (by decide +kernel)
  · exact gw_in (tb_1 (List.mem_of_getElem? (i := 110) rfl)) (by decide +kernel)
theorem in_G : ∀ w ∈ u_ws R_G F_G 5, w ∈ gw := by
  intro w h
  obtain ⟨k, hk, rfl⟩ := List.mem_map.mp h
  have hk := List.mem_range.mp hk
  rcases (show k = 0 ∨ k = 1 ∨ k = 2 ∨ k = 3 ∨ k = 4 by omega) with rfl | rfl | rfl | rfl | rfl
  · exact gw_in (tb_1 (List.mem_of_getElem? (i := 89) rfl)) (by decide +kernel)
  · exact gw_in (tb_1 (List.mem_of_getElem? (i := 91) rfl)) (by decide +kernel)
  · exact gw_in (tb_1 (List.mem_of_getElem? (i := 93) rfl)) (by decide +kernel)
  · exact gw_in (tb_1 (List.mem_of_getElem? (i := 95) rfl)) (by decide +kernel)
  · exact gw_in (tb_1 (List.mem_of_getElem? (i := 97) rfl)) (by decide +kernel)
theorem in_S : ∀ w ∈ u_ws R_S F_S 7, w ∈ gw := by
  intro w h
  obtain ⟨k, hk, rfl⟩ := List.mem_map.mp h
  have hk := List.mem_range.mp hk
  rcases (show k = 0 ∨ k = 1 ∨ k = 2 ∨ k = 3 ∨ k = 4 ∨ k = 5 ∨ k = 6 by omega) with rfl | rfl | rfl | rfl | rfl | rfl | rfl
  · exact gw_in (tb_1 (List.mem_of_getElem? (i := 59) rfl)) (by decide +kernel)
  · exact gw_in (tb_1 (List.mem_of_getElem? (i := 61) rfl)) (by decide +kernel)
  · exact gw_in (tb_1 (List.mem_of_getElem? (i := 63) rfl)) (by decide +kernel)
  · exact gw_in (tb_1 (List.mem_of_getElem? (i := 65) rfl)) (by decide +kernel)
  · exact gw_in (tb_1 (List.mem_of_getElem? (i := 67) rfl)) (by decide +kernel)
  · exact gw_in (tb_1 (List.mem_of_getElem? (i := 69) rfl)) (by decide +kernel)
  · exact gw_in (tb_1 (List.mem_of_getElem? (i := 71) rfl)) (by decide +kernel)
theorem in_R : ∀ w ∈ u_ws R_R F_R 7, w ∈ gw := by
  intro w h
  obtain ⟨k, hk, rfl⟩ := List.mem_map.mp h
  have hk := List.mem_range.mp hk
  rcases (show k = 0 ∨ k = 1 ∨ k = 2 ∨ k = 3 ∨ k = 4 ∨ k = 5 ∨ k = 6 by omega) with rfl | rfl | rfl | rfl | rfl | rfl | rfl
  · exact gw_in (tb_1 (List.mem_of_getElem? (i := 121) rfl)) (by decide +kernel)
  · exact gw_in (tb_1 (List.mem_of_getElem? (i := 123) rfl)) (by decide +kernel)
  · exact gw_in (tb_1 (List.mem_of_getElem? (i := 125) rfl)) (by decide +kernel)
  · exact gw_in (tb_1 (List.mem_of_getElem? (i := 127) rfl)) (by decide +kernel)
  · exact gw_in (tb_1 (List.mem_of_getElem? (i := 129) rfl)) (by decide +kernel)
  · exact gw_in (tb_1 (List.mem_of_getElem? (i := 131) rfl)) (by decide +kernel)
  · exact gw_in (tb_1 (List.mem_of_getElem? (i := 133) rfl)) (by decide +kernel)
theorem in_M : ∀ w ∈ u_ws R_M F_M 20, w ∈ gw := by
  intro w h
  obtain ⟨k, hk, rfl⟩ := List.mem_map.mp h
  have hk := List.mem_range.mp hk
  rcases (show k = 0 ∨ k = 1 ∨ k = 2 ∨ k = 3 ∨ k = 4 ∨ k = 5 ∨ k = 6 ∨ k = 7 ∨ k = 8 ∨ k = 9 ∨ k = 10 ∨ k = 11 ∨ k = 12 ∨ k = 13 ∨ k = 14 ∨ k = 15 ∨ k = 16 ∨ k = 17 ∨ k = 18 ∨ k = 19 by omega) with rfl | rfl | rfl | rfl | rfl | rfl | rfl | rfl | rfl | rfl | rfl | rfl | rfl | rfl | rfl | rfl | rfl | rfl | rfl | rfl
  · exact gw_in (tb_4 (List.mem_of_getElem? (i := 12) rfl)) (by decide +kernel)
  · exact gw_in (tb_4 (List.mem_of_getElem? (i := 14) rfl)) (by decide +kernel)
  · exact gw_in (tb_4 (List.mem_of_getElem? (i := 16) rfl)) (by decide +kernel)
  · exact gw_in (tb_4 (List.mem_of_getElem? (i := 18) rfl)) (by decide +kernel)
  · exact gw_in (tb_4 (List.mem_of_getElem? (i := 20) rfl)) (by decide +kernel)
  · exact gw_in (tb_4 (List.mem_of_getElem? (i := 22) rfl)) (by decide +kernel)
  · exact gw_in (tb_4 (List.mem_of_getElem? (i := 24) rfl)) (by decide +kernel)
  · exact gw_in (tb_4 (List.mem_of_getElem? (i := 26) rfl)) (by decide +kernel)
  · exact gw_in (tb_4 (List.mem_of_getElem? (i := 28) rfl)) (by decide +kernel)
  · exact gw_in (tb_4 (List.mem_of_getElem? (i := 30) rfl)) (by decide +kernel)
  · exact gw_in (tb_4 (List.mem_of_getElem? (i := 32) rfl)) (by decide +kernel)
  · exact gw_in (tb_4 (List.mem_of_getElem? (i := 34) rfl)) (by decide +kernel)
  · exact gw_in (tb_4 (List.mem_of_getElem? (i := 36) rfl)) (by decide +kernel)
  · exact gw_in (tb_4 (List.mem_of_getElem? (i := 38) rfl)) (by decide +kernel)
  · exact gw_in (tb_4 (List.mem_of_getElem? (i := 40) rfl)) (by decide +kernel)
  · exact gw_in (tb_4 (List.mem_of_getElem? (i := 42) rfl)) (by decide +kernel)
  · exact gw_in (tb_4 (List.mem_of_getElem? (i := 44) rfl)) (by decide +kernel)
  · exact gw_in (tb_4 (List.mem_of_getElem? (i := 46) rfl)) (by decide +kernel)
  · exact gw_in (tb_4 (List.mem_of_getElem? (i := 48) rfl)) (by decide +kernel)
  · exact gw_in (tb_4 (List.mem_of_getElem? (i := 50) rfl)) (by decide +kernel)
theorem g_c {M y : Cond} (hy : y ∈ gw) : GoodIn (M :: gw) (y :: gw) := fun w h => (List.mem_cons.mp h).elim (fun e => by rw [e]; exact ⟨List.mem_cons_of_mem _ hy, good_of_word (gw_good hy)⟩) (fun h => ⟨List.mem_cons_of_mem _ h, good_of_word (gw_good h)⟩)
theorem g_V {M cy : Cond} {own C : String} {idx : Nat} {y : MethodName} (h1 : .methodLink own idx y ∈ gw) (h2 : .instanceMethod y ∈ gw) (h3 : .selects C y y ∈ gw) (h4 : .initialized C ∈ gw) (h5 : cy ∈ gw) : GoodIn (M :: gw) (wsV own idx C y (cy :: gw)) := by
  intro w h
  have k : ∀ {z : Cond}, z ∈ gw → z ∈ M :: gw ∧ ((z.onTables && z.keeps) = true ∨ ∃ ty, z = .arrayClass ty) := fun hz => ⟨List.mem_cons_of_mem _ hz, good_of_word (gw_good hz)⟩
  rcases List.mem_append.mp h with h | h
  · simp only [List.mem_cons, List.not_mem_nil, or_false] at h
    rcases h with rfl | rfl | rfl | rfl
    · exact k h1
    · exact k h2
    · exact k h3
    · exact k h4
  · exact g_c h5 w h
theorem g_S {M cy : Cond} {own : String} {idx : Nat} {y : MethodName} (h1 : .methodLink own idx y ∈ gw) (h2 : .static y ∈ gw) (h4 : .initialized own ∈ gw) (h5 : cy ∈ gw) : GoodIn (M :: gw) (wsS own idx y (cy :: gw)) := by
  intro w h
  have k : ∀ {z : Cond}, z ∈ gw → z ∈ M :: gw ∧ ((z.onTables && z.keeps) = true ∨ ∃ ty, z = .arrayClass ty) := fun hz => ⟨List.mem_cons_of_mem _ hz, good_of_word (gw_good hz)⟩
  rcases List.mem_append.mp h with h | h
  · simp only [List.mem_cons, List.not_mem_nil, or_false] at h
    rcases h with rfl | rfl | rfl
    · exact k h1
    · exact k h2
    · exact k h4
  · exact g_c h5 w h
end
section
/-! numbers at branches, values on the stack, what a call asks of a world -/
theorem cd_eq_t {a b : Nat} (ha : a < 2 ^ 31) (hb : b < 2 ^ 31) (h : nI a = nI b) : a = b := (nI_eq ha hb).mp h
theorem cd_eq_f {a b : Nat} (_ : a < 2 ^ 31) (_ : b < 2 ^ 31) (h : ¬ nI a = nI b) : ¬ a = b := fun q => h (by rw [q])
theorem cd_ne_t {a b : Nat} (ha : a < 2 ^ 31) (hb : b < 2 ^ 31) (h : ¬ nI a = nI b) : ¬ a = b := cd_eq_f ha hb h
theorem cd_ne_f {a b : Nat} (ha : a < 2 ^ 31) (hb : b < 2 ^ 31) (h : nI a = nI b) : a = b := cd_eq_t ha hb h
theorem cd_lt_t {a b : Nat} (ha : a < 2 ^ 31) (hb : b < 2 ^ 31) (h : nI a < nI b) : a < b := (nI_ltI ha hb).mp h
theorem cd_lt_f {a b : Nat} (ha : a < 2 ^ 31) (hb : b < 2 ^ 31) (h : ¬ nI a < nI b) : ¬ a < b := fun q => h ((nI_ltI ha hb).mpr q)
theorem cd_ge_t {a b : Nat} (ha : a < 2 ^ 31) (hb : b < 2 ^ 31) (h : nI b ≤ nI a) : b ≤ a := (nI_leI hb ha).mp h
theorem cd_ge_f {a b : Nat} (ha : a < 2 ^ 31) (hb : b < 2 ^ 31) (h : ¬ nI b ≤ nI a) : ¬ b ≤ a := fun q => h ((nI_leI hb ha).mpr q)
theorem cd_gt_t {a b : Nat} (ha : a < 2 ^ 31) (hb : b < 2 ^ 31) (h : nI b < nI a) : b < a := (nI_ltI hb ha).mp h
theorem cd_gt_f {a b : Nat} (ha : a < 2 ^ 31) (hb : b < 2 ^ 31) (h : ¬ nI b < nI a) : ¬ b < a := fun q => h ((nI_ltI hb ha).mpr q)
theorem cd_le_t {a b : Nat} (ha : a < 2 ^ 31) (hb : b < 2 ^ 31) (h : nI a ≤ nI b) : a ≤ b := (nI_leI ha hb).mp h
theorem cd_le_f {a b : Nat} (ha : a < 2 ^ 31) (hb : b < 2 ^ 31) (h : ¬ nI a ≤ nI b) : ¬ a ≤ b := fun q => h ((nI_leI ha hb).mpr q)
theorem cz_eq_t {a : Nat} (ha : a < 2 ^ 31) (h : nI a = 0) : a = 0 := cd_eq_t ha (by decide) (by rw [nI_0]; exact h)
theorem cz_eq_f {a : Nat} (_ : a < 2 ^ 31) (h : ¬ nI a = 0) : ¬ a = 0 := fun q => h (by rw [q, nI_0])
theorem cz_ne_t {a : Nat} (ha : a < 2 ^ 31) (h : ¬ nI a = 0) : ¬ a = 0 := cz_eq_f ha h
theorem cz_ne_f {a : Nat} (ha : a < 2 ^ 31) (h : nI a = 0) : a = 0 := cz_eq_t ha h
theorem cz_lt_t {a : Nat} (ha : a < 2 ^ 31) (h : nI a < 0) : False := nI_pos ha h
theorem cz_lt_f {a : Nat} (_ : a < 2 ^ 31) (_ : ¬ nI a < 0) : True := trivial
theorem cz_ge_t {a : Nat} (_ : a < 2 ^ 31) (_ : 0 ≤ nI a) : True := trivial
theorem cz_ge_f {a : Nat} (ha : a < 2 ^ 31) (h : ¬ 0 ≤ nI a) : False := h (nI_pos' ha)
theorem cz_gt_t {a : Nat} (ha : a < 2 ^ 31) (h : 0 < nI a) : 0 < a := cd_lt_t (by decide) ha (by rw [nI_0]; exact h)
theorem cz_gt_f {a : Nat} (ha : a < 2 ^ 31) (h : ¬ 0 < nI a) : a = 0 := by
  have := cd_lt_f (a := 0) (by decide) ha (by rw [nI_0]; exact h)
  omega
theorem cz_le_t {a : Nat} (ha : a < 2 ^ 31) (h : nI a ≤ 0) : a = 0 := by
  have := cd_le_t (b := 0) ha (by decide) (by rw [nI_0]; exact h)
  omega
theorem cz_le_f {a : Nat} (ha : a < 2 ^ 31) (h : ¬ nI a ≤ 0) : 0 < a := by
  have := cd_le_f (b := 0) ha (by decide) (by rw [nI_0]; exact h)
  omega
section TP
variable {p : Program} {l : Launch} {e : Env} {R : Room} {s : State} {m : MethodId} {args : Array Value} {below : List Frame} {meth : Method} {c : Code} {H : Heap} {locs : List Loc} {cells slots : Nat} {Q : State → Prop} {pc : Nat} {ls : Array Slot} {rest : List Value}
theorem tp_i {x y : Int32} (h : x = y) (k : W p l e R s m args below meth c H locs cells slots Q (F0 m pc ls (.int y :: rest))) : W p l e R s m args below meth c H locs cells slots Q (F0 m pc ls (.int x :: rest)) := h ▸ k
theorem tp_l {x y : Int64} (h : x = y) (k : W p l e R s m args below meth c H locs cells slots Q (F0 m pc ls (.long y :: rest))) : W p l e R s m args below meth c H locs cells slots Q (F0 m pc ls (.long x :: rest)) := h ▸ k
end TP
/-- a reader's start: the world and the tables -/
def xR (D : va_G) (cl : List vw_C) (tys : List (ClassId × FieldType)) (ws : va_W) (av : List Value) : Array Value → State → Prop := va_Pc av (fun U => va_P D cl ws U.heap ∧ va_K D cl tys U)
/-- a writer's start: and the cells are apart -/
def xP (D : va_G) (cl : List vw_C) (tys : List (ClassId × FieldType)) (ws : va_W) (sz : Nat) (av : List Value) : Array Value → State → Prop := va_Pc av (fun U => U.heap.size = sz ∧ va_P D cl ws U.heap ∧ va_K D cl tys U ∧ va_D (fun _ => True) ws)
/-- a writer's end -/
def xB (D : va_G) (cl : List vw_C) (tys : List (ClassId × FieldType)) (A : Nat → Prop) (ws : va_W) (t : State) : Prop := va_P D cl ws t.heap ∧ va_K D cl tys t ∧ va_D A ws
theorem xR_blind {D : va_G} {cl : List vw_C} {tys : List (ClassId × FieldType)} {ws : va_W} {av : List Value} : FrameBlind (xR D cl tys ws av) := fun a U g mk q => by
  obtain ⟨q0, qP, qK⟩ := q
  exact ⟨q0, qP, va_K.moved (u := U) (U := U.calling g mk a) (Vm.Alike.refl U.vm) qK⟩
theorem xP_blind {D : va_G} {cl : List vw_C} {tys : List (ClassId × FieldType)} {ws : va_W} {sz : Nat} {av : List Value} : FrameBlind (xP D cl tys ws sz av) := fun a U g mk q => by
  obtain ⟨q0, q1, qP, qK, qD⟩ := q
  exact ⟨q0, q1, qP, va_K.moved (u := U) (U := U.calling g mk a) (Vm.Alike.refl U.vm) qK, qD⟩
theorem xR_v {s : State} {H : Heap} {D : va_G} {cl : List vw_C} {tys : List (ClassId × FieldType)} {ws : va_W} {As : List Value} {b ci : Nat} {fs : List Value} {q : vw_C} (hP : va_P D cl ws H) (hK : va_K D cl tys s) (k : Nat) (he : ws[k]? = some (b, .inr (ci, fs))) (hc : cl[ci]? = some q) : PreV s H q.1 b (xR D cl tys ws (.ref b :: As)) As :=
  ⟨xR_blind, va_recv hK hP hc he, fun U hU hW => ⟨rfl, by rw [hU]; exact hP, va_K.moved hW.alike hK⟩⟩
theorem xR_s {s : State} {H : Heap} {D : va_G} {cl : List vw_C} {tys : List (ClassId × FieldType)} {ws : va_W} {As : List Value} (hP : va_P D cl ws H) (hK : va_K D cl tys s) : PreS s H (xR D cl tys ws As) As :=
  ⟨xR_blind, fun U hU hW => ⟨rfl, by rw [hU]; exact hP, va_K.moved hW.alike hK⟩⟩
theorem xP_v {s : State} {H : Heap} {D : va_G} {cl : List vw_C} {tys : List (ClassId × FieldType)} {A : Nat → Prop} {ws : va_W} {As : List Value} {b ci : Nat} {fs : List Value} {q : vw_C} (hP : va_P D cl ws H) (hK : va_K D cl tys s) (hD : va_D A ws) (k : Nat) (he : ws[k]? = some (b, .inr (ci, fs))) (hc : cl[ci]? = some q) : PreV s H q.1 b (xP D cl tys ws H.size (.ref b :: As)) As :=
  ⟨xP_blind, va_recv hK hP hc he, fun U hU hW => ⟨rfl, by rw [hU], by rw [hU]; exact hP, va_K.moved hW.alike hK, hD.weaken (fun _ _ _ _ => trivial)⟩⟩
theorem xP_s {s : State} {H : Heap} {D : va_G} {cl : List vw_C} {tys : List (ClassId × FieldType)} {A : Nat → Prop} {ws : va_W} {As : List Value} (hP : va_P D cl ws H) (hK : va_K D cl tys s) (hD : va_D A ws) : PreS s H (xP D cl tys ws H.size As) As :=
  ⟨xP_blind, fun U hU hW => ⟨rfl, by rw [hU], by rw [hU]; exact hP, va_K.moved hW.alike hK, hD.weaken (fun _ _ _ _ => trivial)⟩⟩
/-- what a method of n cells may change -/
def xA (n : Nat) (ad : Nat → Nat) (sz : Nat) : Nat → Prop := fun q => (∃ k, k < n ∧ q = ad k) ∨ sz ≤ q
theorem xA_up {n : Nat} {ad : Nat → Nat} {a b : Nat} (h : a ≤ b) : ∀ q, xA n ad b q → xA n ad a q := fun q hq => hq.elim Or.inl (fun z => Or.inr (Nat.le_trans h z))
end
section
/-- the recorder's fifteen cells -/
def xw (ad cd : Nat → Nat) (w wr fl : Nat → Int32) (pw sc : Int32) (lw rot vb : Nat → Int32) (rec tk : Int32) (live row : Nat → Int32) (cur ser dur wo : Int32) (bts : Nat → Int32) (us : Int32) (act : Nat → Int32) (rd rs : Int32) : va_W := [(ad 0, .inr (4, [.ref (ad 1), .ref (ad 2), .ref (ad 3), .ref (ad 4), .ref (ad 5), .int rd, .int rs])), (ad 1, .inr (3, [.ref (ad 2), .ref (ad 6), .ref (ad 7), .int cur, .int ser, .int dur, .int wo])), (ad 2, .inr (0, [.ref (ad 8), .ref (ad 9), .ref (ad 10), .int pw, .int sc])), (ad 3, .inr (2, [.ref (ad 11), .ref (ad 12), .ref (ad 13), .int rec, .int tk])), (ad 4, .inr (1, [.ref (ad 14), .int us])), (ad 5, .inl (cd 5, 40, .inl act)), (ad 6, .inl (cd 6, 16, .inl live)), (ad 7, .inl (cd 7, 16, .inl row)), (ad 8, .inl (cd 8, 512, .inl w)), (ad 9, .inl (cd 9, 8, .inl wr)), (ad 10, .inl (cd 10, 8, .inl fl)), (ad 11, .inl (cd 11, 192, .inl lw)), (ad 12, .inl (cd 12, 48, .inl rot)), (ad 13, .inl (cd 13, 48, .inl vb)), (ad 14, .inl (cd 14, 32, .inl bts))]
def xt (cd : Nat → Nat) : List (ClassId × FieldType) := [(cd 5, .boolean), (cd 6, .int), (cd 7, .int), (cd 8, .int), (cd 9, .int), (cd 10, .boolean), (cd 11, .int), (cd 12, .int), (cd 13, .int), (cd 14, .byte)]
/-- the reference's nine cells -/
def mw_ (am cm : Nat → Nat) (th : Int32) (mw mwr mfl mact : Nat → Int32) (on cut mrec : Int32) (mlog mlive had : Nat → Int32) (mser mcur mrd mwt worn : Int32) (pg : Nat → Int32) (pla sou fou : Int32) : va_W := [(am 0, .inr (5, [.int th, .ref (am 1), .ref (am 2), .ref (am 3), .ref (am 4), .int on, .int cut, .int mrec, .ref (am 5), .ref (am 6), .ref (am 7), .int mser, .int mcur, .int mrd, .int mwt, .int worn, .ref (am 8), .int pla, .int sou, .int fou])), (am 1, .inl (cm 1, 512, .inl mw)), (am 2, .inl (cm 2, 8, .inl mwr)), (am 3, .inl (cm 3, 8, .inl mfl)), (am 4, .inl (cm 4, 40, .inl mact)), (am 5, .inl (cm 5, 192, .inl mlog)), (am 6, .inl (cm 6, 16, .inl mlive)), (am 7, .inl (cm 7, 16, .inl had)), (am 8, .inl (cm 8, 16, .inl pg))]
def mt (cm : Nat → Nat) : List (ClassId × FieldType) := [(cm 1, .int), (cm 2, .int), (cm 3, .boolean), (cm 4, .boolean), (cm 5, .int), (cm 6, .int), (cm 7, .int), (cm 8, .int)]
theorem xw_D {B : Nat → Prop} {ad cd : Nat → Nat} {sz : Nat} {w wr fl : Nat → Int32} {pw sc : Int32} {lw rot vb : Nat → Int32} {rec tk : Int32} {live row : Nat → Int32} {cur ser dur wo : Int32} {bts : Nat → Int32} {us : Int32} {act : Nat → Int32} {rd rs : Int32} (h : va_D B (xw ad cd w wr fl pw sc lw rot vb rec tk live row cur ser dur wo bts us act rd rs)) : va_D (xA 15 ad sz) (xw ad cd w wr fl pw sc lw rot vb rec tk live row cur ser dur wo bts us act rd rs) := by
  refine ⟨h.1, fun k q hk => ?_⟩
  have hl : k < 15 := (List.getElem?_eq_some_iff.mp hk).1
  rcases (show k = 0 ∨ k = 1 ∨ k = 2 ∨ k = 3 ∨ k = 4 ∨ k = 5 ∨ k = 6 ∨ k = 7 ∨ k = 8 ∨ k = 9 ∨ k = 10 ∨ k = 11 ∨ k = 12 ∨ k = 13 ∨ k = 14 by omega) with rfl | rfl | rfl | rfl | rfl | rfl | rfl | rfl | rfl | rfl | rfl | rfl | rfl | rfl | rfl <;> (cases hk; exact Or.inl ⟨_, hl, rfl⟩)
theorem xw_J {A : Nat → Prop} {B : Nat → Prop} {ad cd : Nat → Nat} {w wr fl : Nat → Int32} {pw sc : Int32} {lw rot vb : Nat → Int32} {rec tk : Int32} {live row : Nat → Int32} {cur ser dur wo : Int32} {bts : Nat → Int32} {us : Int32} {act : Nat → Int32} {rd rs : Int32} (h : va_D B (xw ad cd w wr fl pw sc lw rot vb rec tk live row cur ser dur wo bts us act rd rs)) (hA : ∀ k, k < 15 → A (ad k)) : va_D A (xw ad cd w wr fl pw sc lw rot vb rec tk live row cur ser dur wo bts us act rd rs) := by
  refine ⟨h.1, fun k q hk => ?_⟩
  have hl : k < 15 := (List.getElem?_eq_some_iff.mp hk).1
  rcases (show k = 0 ∨ k = 1 ∨ k = 2 ∨ k = 3 ∨ k = 4 ∨ k = 5 ∨ k = 6 ∨ k = 7 ∨ k = 8 ∨ k = 9 ∨ k = 10 ∨ k = 11 ∨ k = 12 ∨ k = 13 ∨ k = 14 by omega) with rfl | rfl | rfl | rfl | rfl | rfl | rfl | rfl | rfl | rfl | rfl | rfl | rfl | rfl | rfl <;> (cases hk; exact hA _ hl)
theorem mw_D {B : Nat → Prop} {am cm : Nat → Nat} {sz : Nat} {th : Int32} {mw mwr mfl mact : Nat → Int32} {on cut mrec : Int32} {mlog mlive had : Nat → Int32} {mser mcur mrd mwt worn : Int32} {pg : Nat → Int32} {pla sou fou : Int32} (h : va_D B (mw_ am cm th mw mwr mfl mact on cut mrec mlog mlive had mser mcur mrd mwt worn pg pla sou fou)) : va_D (xA 9 am sz) (mw_ am cm th mw mwr mfl mact on cut mrec mlog mlive had mser mcur mrd mwt worn pg pla sou fou) := by
  refine ⟨h.1, fun k q hk => ?_⟩
  have hl : k < 9 := (List.getElem?_eq_some_iff.mp hk).1
  rcases (show k = 0 ∨ k = 1 ∨ k = 2 ∨ k = 3 ∨ k = 4 ∨ k = 5 ∨ k = 6 ∨ k = 7 ∨ k = 8 by omega) with rfl | rfl | rfl | rfl | rfl | rfl | rfl | rfl | rfl <;> (cases hk; exact Or.inl ⟨_, hl, rfl⟩)
theorem mw_J {A : Nat → Prop} {B : Nat → Prop} {am cm : Nat → Nat} {th : Int32} {mw mwr mfl mact : Nat → Int32} {on cut mrec : Int32} {mlog mlive had : Nat → Int32} {mser mcur mrd mwt worn : Int32} {pg : Nat → Int32} {pla sou fou : Int32} (h : va_D B (mw_ am cm th mw mwr mfl mact on cut mrec mlog mlive had mser mcur mrd mwt worn pg pla sou fou)) (hA : ∀ k, k < 9 → A (am k)) : va_D A (mw_ am cm th mw mwr mfl mact on cut mrec mlog mlive had mser mcur mrd mwt worn pg pla sou fou) := by
  refine ⟨h.1, fun k q hk => ?_⟩
  have hl : k < 9 := (List.getElem?_eq_some_iff.mp hk).1
  rcases (show k = 0 ∨ k = 1 ∨ k = 2 ∨ k = 3 ∨ k = 4 ∨ k = 5 ∨ k = 6 ∨ k = 7 ∨ k = 8 by omega) with rfl | rfl | rfl | rfl | rfl | rfl | rfl | rfl | rfl <;> (cases hk; exact hA _ hl)
/-- a free page -/
def fp (w : Nat → Int32) (p : Nat) : Prop := ∀ i, i < 16 → w (16 * p + i) = -1
theorem m1_ne {n : Nat} (h : n < 2 ^ 31) : nI n ≠ -1 := fun q => by
  have h1 : (nI n).toInt = (-1 : Int32).toInt := by rw [q]
  rw [nI_toInt h] at h1
  have h2 : (-1 : Int32).toInt = -1 := by decide
  omega
end
section
abbrev b_C_isPowered : ByteArray := prog_2_method_2_code
def y_C_isPowered : MethodName := ⟨R_C, "isPowered", "()Z"⟩
def w_C_isPowered : List Cond := .code y_C_isPowered b_C_isPowered 1 (some (.boolean)) :: gw
abbrev b_C_read : ByteArray := prog_2_method_6_code
def y_C_read : MethodName := ⟨R_C, "read", "(II)I"⟩
def w_C_read : List Cond := .code y_C_read b_C_read 3 (some (.int)) :: gw
abbrev b_C_wearAt : ByteArray := prog_2_method_8_code
def y_C_wearAt : MethodName := ⟨R_C, "wearAt", "(I)I"⟩
def w_C_wearAt : List Cond := .code y_C_wearAt b_C_wearAt 2 (some (.int)) :: gw
abbrev b_C_isFree : ByteArray := prog_2_method_14_code
def y_C_isFree : MethodName := ⟨R_C, "isFree", "(I)Z"⟩
def w_C_isFree : List Cond := .code y_C_isFree b_C_isFree 4 (some (.boolean)) :: gw
abbrev b_C_isRight : ByteArray := prog_2_method_15_code
def y_C_isRight : MethodName := ⟨R_C, "isRight", "(I)Z"⟩
def w_C_isRight : List Cond := .code y_C_isRight b_C_isRight 3 (some (.boolean)) :: gw
abbrev b_C_freePagesOf : ByteArray := prog_2_method_19_code
def y_C_freePagesOf : MethodName := ⟨R_C, "freePagesOf", "(I)I"⟩
def w_C_freePagesOf : List Cond := .code y_C_freePagesOf b_C_freePagesOf 4 (some (.int)) :: gw
abbrev b_C_usableFreePages : ByteArray := prog_2_method_20_code
def y_C_usableFreePages : MethodName := ⟨R_C, "usableFreePages", "()I"⟩
def w_C_usableFreePages : List Cond := .code y_C_usableFreePages b_C_usableFreePages 3 (some (.int)) :: gw
abbrev b_C_turnOff : ByteArray := prog_2_method_3_code
def y_C_turnOff : MethodName := ⟨R_C, "turnOff", "()V"⟩
def w_C_turnOff : List Cond := .code y_C_turnOff b_C_turnOff 1 none :: gw
abbrev b_C_turnOn : ByteArray := prog_2_method_4_code
def y_C_turnOn : MethodName := ⟨R_C, "turnOn", "()V"⟩
def w_C_turnOn : List Cond := .code y_C_turnOn b_C_turnOn 1 none :: gw
abbrev b_C_tellCut : ByteArray := prog_2_method_5_code
def y_C_tellCut : MethodName := ⟨R_C, "tellCut", "(I)V"⟩
def w_C_tellCut : List Cond := .code y_C_tellCut b_C_tellCut 2 none :: gw
abbrev b_C_flip : ByteArray := prog_2_method_7_code
def y_C_flip : MethodName := ⟨R_C, "flip", "(III)V"⟩
def w_C_flip : List Cond := .code y_C_flip b_C_flip 4 none :: gw
abbrev b_C_markFailed : ByteArray := prog_2_method_9_code
def y_C_markFailed : MethodName := ⟨R_C, "markFailed", "(I)V"⟩
def w_C_markFailed : List Cond := .code y_C_markFailed b_C_markFailed 2 none :: gw
abbrev b_G_recordCount : ByteArray := prog_4_method_3_code
def y_G_recordCount : MethodName := ⟨R_G, "recordCount", "()I"⟩
def w_G_recordCount : List Cond := .code y_G_recordCount b_G_recordCount 1 (some (.int)) :: gw
abbrev b_G_ticketCount : ByteArray := prog_4_method_4_code
def y_G_ticketCount : MethodName := ⟨R_G, "ticketCount", "()I"⟩
def w_G_ticketCount : List Cond := .code y_G_ticketCount b_G_ticketCount 1 (some (.int)) :: gw
abbrev b_G_hasTicket : ByteArray := prog_4_method_11_code
def y_G_hasTicket : MethodName := ⟨R_G, "hasTicket", "(I)Z"⟩
def w_G_hasTicket : List Cond := .code y_G_hasTicket b_G_hasTicket 2 (some (.boolean)) :: gw
abbrev b_G_empty : ByteArray := prog_4_method_2_code
def y_G_empty : MethodName := ⟨R_G, "empty", "()V"⟩
def w_G_empty : List Cond := .code y_G_empty b_G_empty 1 none :: gw
abbrev b_S_durableCount : ByteArray := prog_5_method_4_code
def y_S_durableCount : MethodName := ⟨R_S, "durableCount", "()I"⟩
def w_S_durableCount : List Cond := .code y_S_durableCount b_S_durableCount 1 (some (.int)) :: gw
abbrev b_S_latestSerial : ByteArray := prog_5_method_5_code
def y_S_latestSerial : MethodName := ⟨R_S, "latestSerial", "()I"⟩
def w_S_latestSerial : List Cond := .code y_S_latestSerial b_S_latestSerial 1 (some (.int)) :: gw
abbrev b_S_cursorBlock : ByteArray := prog_5_method_6_code
def y_S_cursorBlock : MethodName := ⟨R_S, "cursorBlock", "()I"⟩
def w_S_cursorBlock : List Cond := .code y_S_cursorBlock b_S_cursorBlock 1 (some (.int)) :: gw
abbrev b_S_isLive : ByteArray := prog_5_method_8_code
def y_S_isLive : MethodName := ⟨R_S, "isLive", "(I)Z"⟩
def w_S_isLive : List Cond := .code y_S_isLive b_S_isLive 3 (some (.boolean)) :: gw
abbrev b_S_livePageCount : ByteArray := prog_5_method_7_code
def y_S_livePageCount : MethodName := ⟨R_S, "livePageCount", "()I"⟩
def w_S_livePageCount : List Cond := .code y_S_livePageCount b_S_livePageCount 3 (some (.int)) :: gw
abbrev b_R_forgetReadings : ByteArray := prog_1_method_22_code
def y_R_forgetReadings : MethodName := ⟨R_R, "forgetReadings", "()V"⟩
def w_R_forgetReadings : List Cond := .code y_R_forgetReadings b_R_forgetReadings 1 none :: gw
theorem t_37 : (.fieldLink R_C 22 R_C "powered" "Z" : Cond) ∈ gw := gw_in (tb_1 (List.mem_of_getElem? (i := 37) rfl)) (by first | rfl | decide +kernel)
theorem t_34 : (.fieldLink R_C 9 R_C "words" "[I" : Cond) ∈ gw := gw_in (tb_1 (List.mem_of_getElem? (i := 34) rfl)) (by first | rfl | decide +kernel)
theorem t_35 : (.fieldLink R_C 15 R_C "wear" "[I" : Cond) ∈ gw := gw_in (tb_1 (List.mem_of_getElem? (i := 35) rfl)) (by first | rfl | decide +kernel)
theorem t_164 : (.methodLink R_C 34 y_C_read : Cond) ∈ gw := gw_in (tb_1 (List.mem_of_getElem? (i := 164) rfl)) (by first | rfl | decide +kernel)
theorem t_167 : (.code y_C_read b_C_read 3 (some (.int)) : Cond) ∈ gw := gw_in (tb_1 (List.mem_of_getElem? (i := 167) rfl)) (by first | rfl | decide +kernel)
theorem t_165 : (.instanceMethod y_C_read : Cond) ∈ gw := gw_in (tb_1 (List.mem_of_getElem? (i := 165) rfl)) (by first | rfl | decide +kernel)
theorem t_166 : (.selects R_C y_C_read y_C_read : Cond) ∈ gw := gw_in (tb_1 (List.mem_of_getElem? (i := 166) rfl)) (by first | rfl | decide +kernel)
theorem t_3 : (.initialized R_C : Cond) ∈ gw := gw_in (tb_1 (List.mem_of_getElem? (i := 3) rfl)) (by first | rfl | decide +kernel)
theorem t_258 : (.methodLink R_C 43 y_C_isFree : Cond) ∈ gw := gw_in (tb_2 (List.mem_of_getElem? (i := 18) rfl)) (by first | rfl | decide +kernel)
theorem t_261 : (.code y_C_isFree b_C_isFree 4 (some (.boolean)) : Cond) ∈ gw := gw_in (tb_2 (List.mem_of_getElem? (i := 21) rfl)) (by first | rfl | decide +kernel)
theorem t_259 : (.instanceMethod y_C_isFree : Cond) ∈ gw := gw_in (tb_2 (List.mem_of_getElem? (i := 19) rfl)) (by first | rfl | decide +kernel)
theorem t_260 : (.selects R_C y_C_isFree y_C_isFree : Cond) ∈ gw := gw_in (tb_2 (List.mem_of_getElem? (i := 20) rfl)) (by first | rfl | decide +kernel)
theorem t_36 : (.fieldLink R_C 18 R_C "failed" "[Z" : Cond) ∈ gw := gw_in (tb_1 (List.mem_of_getElem? (i := 36) rfl)) (by first | rfl | decide +kernel)
theorem t_254 : (.methodLink R_C 47 y_C_freePagesOf : Cond) ∈ gw := gw_in (tb_2 (List.mem_of_getElem? (i := 14) rfl)) (by first | rfl | decide +kernel)
theorem t_257 : (.code y_C_freePagesOf b_C_freePagesOf 4 (some (.int)) : Cond) ∈ gw := gw_in (tb_2 (List.mem_of_getElem? (i := 17) rfl)) (by first | rfl | decide +kernel)
theorem t_255 : (.instanceMethod y_C_freePagesOf : Cond) ∈ gw := gw_in (tb_2 (List.mem_of_getElem? (i := 15) rfl)) (by first | rfl | decide +kernel)
theorem t_256 : (.selects R_C y_C_freePagesOf y_C_freePagesOf : Cond) ∈ gw := gw_in (tb_2 (List.mem_of_getElem? (i := 16) rfl)) (by first | rfl | decide +kernel)
theorem t_38 : (.fieldLink R_C 26 R_C "stepsToCut" "I" : Cond) ∈ gw := gw_in (tb_1 (List.mem_of_getElem? (i := 38) rfl)) (by first | rfl | decide +kernel)
theorem t_87 : (.fieldLink R_G 21 R_G "records" "I" : Cond) ∈ gw := gw_in (tb_1 (List.mem_of_getElem? (i := 87) rfl)) (by first | rfl | decide +kernel)
theorem t_88 : (.fieldLink R_G 25 R_G "tickets" "I" : Cond) ∈ gw := gw_in (tb_1 (List.mem_of_getElem? (i := 88) rfl)) (by first | rfl | decide +kernel)
theorem t_57 : (.fieldLink R_S 32 R_S "durable" "I" : Cond) ∈ gw := gw_in (tb_1 (List.mem_of_getElem? (i := 57) rfl)) (by first | rfl | decide +kernel)
theorem t_56 : (.fieldLink R_S 29 R_S "serial" "I" : Cond) ∈ gw := gw_in (tb_1 (List.mem_of_getElem? (i := 56) rfl)) (by first | rfl | decide +kernel)
theorem t_55 : (.fieldLink R_S 25 R_S "cursor" "I" : Cond) ∈ gw := gw_in (tb_1 (List.mem_of_getElem? (i := 55) rfl)) (by first | rfl | decide +kernel)
theorem t_53 : (.fieldLink R_S 18 R_S "livePages" "[I" : Cond) ∈ gw := gw_in (tb_1 (List.mem_of_getElem? (i := 53) rfl)) (by first | rfl | decide +kernel)
theorem t_238 : (.methodLink R_S 39 y_S_isLive : Cond) ∈ gw := gw_in (tb_1 (List.mem_of_getElem? (i := 238) rfl)) (by first | rfl | decide +kernel)
theorem t_241 : (.code y_S_isLive b_S_isLive 3 (some (.boolean)) : Cond) ∈ gw := gw_in (tb_2 (List.mem_of_getElem? (i := 1) rfl)) (by first | rfl | decide +kernel)
theorem t_240 : (.instanceMethod y_S_isLive : Cond) ∈ gw := gw_in (tb_2 (List.mem_of_getElem? (i := 0) rfl)) (by first | rfl | decide +kernel)
theorem t_2 : (.initialized R_S : Cond) ∈ gw := gw_in (tb_1 (List.mem_of_getElem? (i := 2) rfl)) (by first | rfl | decide +kernel)
theorem t_119 : (.fieldLink R_R 41 R_R "readings" "I" : Cond) ∈ gw := gw_in (tb_1 (List.mem_of_getElem? (i := 119) rfl)) (by first | rfl | decide +kernel)
theorem t_120 : (.fieldLink R_R 45 R_R "readSteps" "I" : Cond) ∈ gw := gw_in (tb_1 (List.mem_of_getElem? (i := 120) rfl)) (by first | rfl | decide +kernel)
theorem s_5 : (.selects R_S y_S_isLive y_S_isLive : Cond) ∈ gw := gw_in (tb_s (q := (⟨"WeighRecorder$Store", "isLive", "(I)Z"⟩, _)) (List.mem_of_getElem? (i := 5) rfl)) (by first | rfl | decide +kernel)
theorem d_C_isPowered_0 : decode b_C_isPowered 0 = .ok (.aload_n 0, 1) := by decide +kernel
theorem d_C_isPowered_1 : decode b_C_isPowered 1 = .ok (.getfield 22, 3) := by decide +kernel
theorem d_C_isPowered_4 : decode b_C_isPowered 4 = .ok (.ireturn, 1) := by decide +kernel
theorem d_C_read_0 : decode b_C_read 0 = .ok (.aload_n 0, 1) := by decide +kernel
theorem d_C_read_1 : decode b_C_read 1 = .ok (.getfield 9, 3) := by decide +kernel
theorem d_C_read_4 : decode b_C_read 4 = .ok (.iload_n 1, 1) := by decide +kernel
theorem d_C_read_5 : decode b_C_read 5 = .ok (.bipush 16, 2) := by decide +kernel
theorem d_C_read_7 : decode b_C_read 7 = .ok (.imul, 1) := by decide +kernel
theorem d_C_read_8 : decode b_C_read 8 = .ok (.iload_n 2, 1) := by decide +kernel
theorem d_C_read_9 : decode b_C_read 9 = .ok (.iadd, 1) := by decide +kernel
theorem d_C_read_10 : decode b_C_read 10 = .ok (.iaload, 1) := by decide +kernel
theorem d_C_read_11 : decode b_C_read 11 = .ok (.ireturn, 1) := by decide +kernel
theorem d_C_wearAt_0 : decode b_C_wearAt 0 = .ok (.aload_n 0, 1) := by decide +kernel
theorem d_C_wearAt_1 : decode b_C_wearAt 1 = .ok (.getfield 15, 3) := by decide +kernel
theorem d_C_wearAt_4 : decode b_C_wearAt 4 = .ok (.iload_n 1, 1) := by decide +kernel
theorem d_C_wearAt_5 : decode b_C_wearAt 5 = .ok (.iaload, 1) := by decide +kernel
theorem d_C_wearAt_6 : decode b_C_wearAt 6 = .ok (.ireturn, 1) := by decide +kernel
theorem d_C_isFree_0 : decode b_C_isFree 0 = .ok (.iload_n 1, 1) := by decide +kernel
theorem d_C_isFree_1 : decode b_C_isFree 1 = .ok (.bipush 16, 2) := by decide +kernel
theorem d_C_isFree_3 : decode b_C_isFree 3 = .ok (.imul, 1) := by decide +kernel
theorem d_C_isFree_4 : decode b_C_isFree 4 = .ok (.istore_n 2, 1) := by decide +kernel
theorem d_C_isFree_5 : decode b_C_isFree 5 = .ok (.iload_n 2, 1) := by decide +kernel
theorem d_C_isFree_6 : decode b_C_isFree 6 = .ok (.istore_n 3, 1) := by decide +kernel
theorem d_C_isFree_7 : decode b_C_isFree 7 = .ok (.iload_n 3, 1) := by decide +kernel
theorem d_C_isFree_8 : decode b_C_isFree 8 = .ok (.iload_n 2, 1) := by decide +kernel
theorem d_C_isFree_9 : decode b_C_isFree 9 = .ok (.bipush 16, 2) := by decide +kernel
theorem d_C_isFree_11 : decode b_C_isFree 11 = .ok (.iadd, 1) := by decide +kernel
theorem d_C_isFree_12 : decode b_C_isFree 12 = .ok (.if_icmp .ge (21), 3) := by decide +kernel
theorem d_C_isFree_15 : decode b_C_isFree 15 = .ok (.aload_n 0, 1) := by decide +kernel
theorem d_C_isFree_16 : decode b_C_isFree 16 = .ok (.getfield 9, 3) := by decide +kernel
theorem d_C_isFree_19 : decode b_C_isFree 19 = .ok (.iload_n 3, 1) := by decide +kernel
theorem d_C_isFree_20 : decode b_C_isFree 20 = .ok (.iaload, 1) := by decide +kernel
theorem d_C_isFree_21 : decode b_C_isFree 21 = .ok (.iconst (-1), 1) := by decide +kernel
theorem d_C_isFree_22 : decode b_C_isFree 22 = .ok (.if_icmp .eq (5), 3) := by decide +kernel
theorem d_C_isFree_25 : decode b_C_isFree 25 = .ok (.iconst 0, 1) := by decide +kernel
theorem d_C_isFree_26 : decode b_C_isFree 26 = .ok (.ireturn, 1) := by decide +kernel
theorem d_C_isFree_27 : decode b_C_isFree 27 = .ok (.iinc 3 1, 3) := by decide +kernel
theorem d_C_isFree_30 : decode b_C_isFree 30 = .ok (.goto (-23), 3) := by decide +kernel
theorem d_C_isFree_33 : decode b_C_isFree 33 = .ok (.iconst 1, 1) := by decide +kernel
theorem d_C_isFree_34 : decode b_C_isFree 34 = .ok (.ireturn, 1) := by decide +kernel
theorem d_C_isRight_0 : decode b_C_isRight 0 = .ok (.aload_n 0, 1) := by decide +kernel
theorem d_C_isRight_1 : decode b_C_isRight 1 = .ok (.iload_n 1, 1) := by decide +kernel
theorem d_C_isRight_2 : decode b_C_isRight 2 = .ok (.iconst 0, 1) := by decide +kernel
theorem d_C_isRight_3 : decode b_C_isRight 3 = .ok (.invokevirtual 34, 3) := by decide +kernel
theorem d_C_isRight_6 : decode b_C_isRight 6 = .ok (.istore_n 2, 1) := by decide +kernel
theorem d_C_isRight_7 : decode b_C_isRight 7 = .ok (.iload_n 2, 1) := by decide +kernel
theorem d_C_isRight_8 : decode b_C_isRight 8 = .ok (.ifCond .le (54), 3) := by decide +kernel
theorem d_C_isRight_11 : decode b_C_isRight 11 = .ok (.iload_n 2, 1) := by decide +kernel
theorem d_C_isRight_12 : decode b_C_isRight 12 = .ok (.bipush 64, 2) := by decide +kernel
theorem d_C_isRight_14 : decode b_C_isRight 14 = .ok (.if_icmp .ge (48), 3) := by decide +kernel
theorem d_C_isRight_17 : decode b_C_isRight 17 = .ok (.iload_n 2, 1) := by decide +kernel
theorem d_C_isRight_18 : decode b_C_isRight 18 = .ok (.iconst 4, 1) := by decide +kernel
theorem d_C_isRight_19 : decode b_C_isRight 19 = .ok (.irem, 1) := by decide +kernel
theorem d_C_isRight_20 : decode b_C_isRight 20 = .ok (.ifCond .eq (42), 3) := by decide +kernel
theorem d_C_isRight_23 : decode b_C_isRight 23 = .ok (.aload_n 0, 1) := by decide +kernel
theorem d_C_isRight_24 : decode b_C_isRight 24 = .ok (.iload_n 1, 1) := by decide +kernel
theorem d_C_isRight_25 : decode b_C_isRight 25 = .ok (.bipush 15, 2) := by decide +kernel
theorem d_C_isRight_27 : decode b_C_isRight 27 = .ok (.invokevirtual 34, 3) := by decide +kernel
theorem d_C_isRight_30 : decode b_C_isRight 30 = .ok (.ldc 38, 2) := by decide +kernel
theorem d_C_isRight_32 : decode b_C_isRight 32 = .ok (.if_icmp .ne (30), 3) := by decide +kernel
theorem d_C_isRight_35 : decode b_C_isRight 35 = .ok (.aload_n 0, 1) := by decide +kernel
theorem d_C_isRight_36 : decode b_C_isRight 36 = .ok (.iload_n 1, 1) := by decide +kernel
theorem d_C_isRight_37 : decode b_C_isRight 37 = .ok (.bipush 14, 2) := by decide +kernel
theorem d_C_isRight_39 : decode b_C_isRight 39 = .ok (.invokevirtual 34, 3) := by decide +kernel
theorem d_C_isRight_42 : decode b_C_isRight 42 = .ok (.aload_n 0, 1) := by decide +kernel
theorem d_C_isRight_43 : decode b_C_isRight 43 = .ok (.getfield 9, 3) := by decide +kernel
theorem d_C_isRight_46 : decode b_C_isRight 46 = .ok (.iload_n 1, 1) := by decide +kernel
theorem d_C_isRight_47 : decode b_C_isRight 47 = .ok (.bipush 16, 2) := by decide +kernel
theorem d_C_isRight_49 : decode b_C_isRight 49 = .ok (.imul, 1) := by decide +kernel
theorem d_C_isRight_50 : decode b_C_isRight 50 = .ok (.bipush 14, 2) := by decide +kernel
theorem d_C_isRight_52 : decode b_C_isRight 52 = .ok (.invokestatic 39, 3) := by decide +kernel
theorem d_C_isRight_55 : decode b_C_isRight 55 = .ok (.if_icmp .ne (7), 3) := by decide +kernel
theorem d_C_isRight_58 : decode b_C_isRight 58 = .ok (.iconst 1, 1) := by decide +kernel
theorem d_C_isRight_59 : decode b_C_isRight 59 = .ok (.goto (4), 3) := by decide +kernel
theorem d_C_isRight_62 : decode b_C_isRight 62 = .ok (.iconst 0, 1) := by decide +kernel
theorem d_C_isRight_63 : decode b_C_isRight 63 = .ok (.ireturn, 1) := by decide +kernel
theorem d_C_freePagesOf_0 : decode b_C_freePagesOf 0 = .ok (.iconst 0, 1) := by decide +kernel
theorem d_C_freePagesOf_1 : decode b_C_freePagesOf 1 = .ok (.istore_n 2, 1) := by decide +kernel
theorem d_C_freePagesOf_2 : decode b_C_freePagesOf 2 = .ok (.iload_n 1, 1) := by decide +kernel
theorem d_C_freePagesOf_3 : decode b_C_freePagesOf 3 = .ok (.iconst 4, 1) := by decide +kernel
theorem d_C_freePagesOf_4 : decode b_C_freePagesOf 4 = .ok (.imul, 1) := by decide +kernel
theorem d_C_freePagesOf_5 : decode b_C_freePagesOf 5 = .ok (.istore_n 3, 1) := by decide +kernel
theorem d_C_freePagesOf_6 : decode b_C_freePagesOf 6 = .ok (.iload_n 3, 1) := by decide +kernel
theorem d_C_freePagesOf_7 : decode b_C_freePagesOf 7 = .ok (.iload_n 1, 1) := by decide +kernel
theorem d_C_freePagesOf_8 : decode b_C_freePagesOf 8 = .ok (.iconst 1, 1) := by decide +kernel
theorem d_C_freePagesOf_9 : decode b_C_freePagesOf 9 = .ok (.iadd, 1) := by decide +kernel
theorem d_C_freePagesOf_10 : decode b_C_freePagesOf 10 = .ok (.iconst 4, 1) := by decide +kernel
theorem d_C_freePagesOf_11 : decode b_C_freePagesOf 11 = .ok (.imul, 1) := by decide +kernel
theorem d_C_freePagesOf_12 : decode b_C_freePagesOf 12 = .ok (.if_icmp .ge (20), 3) := by decide +kernel
theorem d_C_freePagesOf_15 : decode b_C_freePagesOf 15 = .ok (.aload_n 0, 1) := by decide +kernel
theorem d_C_freePagesOf_16 : decode b_C_freePagesOf 16 = .ok (.iload_n 3, 1) := by decide +kernel
theorem d_C_freePagesOf_17 : decode b_C_freePagesOf 17 = .ok (.invokevirtual 43, 3) := by decide +kernel
theorem d_C_freePagesOf_20 : decode b_C_freePagesOf 20 = .ok (.ifCond .eq (6), 3) := by decide +kernel
theorem d_C_freePagesOf_23 : decode b_C_freePagesOf 23 = .ok (.iinc 2 1, 3) := by decide +kernel
theorem d_C_freePagesOf_26 : decode b_C_freePagesOf 26 = .ok (.iinc 3 1, 3) := by decide +kernel
theorem d_C_freePagesOf_29 : decode b_C_freePagesOf 29 = .ok (.goto (-23), 3) := by decide +kernel
theorem d_C_freePagesOf_32 : decode b_C_freePagesOf 32 = .ok (.iload_n 2, 1) := by decide +kernel
theorem d_C_freePagesOf_33 : decode b_C_freePagesOf 33 = .ok (.ireturn, 1) := by decide +kernel
theorem d_C_usableFreePages_0 : decode b_C_usableFreePages 0 = .ok (.iconst 0, 1) := by decide +kernel
theorem d_C_usableFreePages_1 : decode b_C_usableFreePages 1 = .ok (.istore_n 1, 1) := by decide +kernel
theorem d_C_usableFreePages_2 : decode b_C_usableFreePages 2 = .ok (.iconst 0, 1) := by decide +kernel
theorem d_C_usableFreePages_3 : decode b_C_usableFreePages 3 = .ok (.istore_n 2, 1) := by decide +kernel
theorem d_C_usableFreePages_4 : decode b_C_usableFreePages 4 = .ok (.iload_n 2, 1) := by decide +kernel
theorem d_C_usableFreePages_5 : decode b_C_usableFreePages 5 = .ok (.bipush 8, 2) := by decide +kernel
theorem d_C_usableFreePages_7 : decode b_C_usableFreePages 7 = .ok (.if_icmp .ge (26), 3) := by decide +kernel
theorem d_C_usableFreePages_10 : decode b_C_usableFreePages 10 = .ok (.aload_n 0, 1) := by decide +kernel
theorem d_C_usableFreePages_11 : decode b_C_usableFreePages 11 = .ok (.getfield 18, 3) := by decide +kernel
theorem d_C_usableFreePages_14 : decode b_C_usableFreePages 14 = .ok (.iload_n 2, 1) := by decide +kernel
theorem d_C_usableFreePages_15 : decode b_C_usableFreePages 15 = .ok (.baload, 1) := by decide +kernel
theorem d_C_usableFreePages_16 : decode b_C_usableFreePages 16 = .ok (.ifCond .ne (11), 3) := by decide +kernel
theorem d_C_usableFreePages_19 : decode b_C_usableFreePages 19 = .ok (.iload_n 1, 1) := by decide +kernel
theorem d_C_usableFreePages_20 : decode b_C_usableFreePages 20 = .ok (.aload_n 0, 1) := by decide +kernel
theorem d_C_usableFreePages_21 : decode b_C_usableFreePages 21 = .ok (.iload_n 2, 1) := by decide +kernel
theorem d_C_usableFreePages_22 : decode b_C_usableFreePages 22 = .ok (.invokevirtual 47, 3) := by decide +kernel
theorem d_C_usableFreePages_25 : decode b_C_usableFreePages 25 = .ok (.iadd, 1) := by decide +kernel
theorem d_C_usableFreePages_26 : decode b_C_usableFreePages 26 = .ok (.istore_n 1, 1) := by decide +kernel
theorem d_C_usableFreePages_27 : decode b_C_usableFreePages 27 = .ok (.iinc 2 1, 3) := by decide +kernel
theorem d_C_usableFreePages_30 : decode b_C_usableFreePages 30 = .ok (.goto (-26), 3) := by decide +kernel
theorem d_C_usableFreePages_33 : decode b_C_usableFreePages 33 = .ok (.iload_n 1, 1) := by decide +kernel
theorem d_C_usableFreePages_34 : decode b_C_usableFreePages 34 = .ok (.ireturn, 1) := by decide +kernel
theorem d_C_turnOff_0 : decode b_C_turnOff 0 = .ok (.aload_n 0, 1) := by decide +kernel
theorem d_C_turnOff_1 : decode b_C_turnOff 1 = .ok (.iconst 0, 1) := by decide +kernel
theorem d_C_turnOff_2 : decode b_C_turnOff 2 = .ok (.putfield 22, 3) := by decide +kernel
theorem d_C_turnOff_5 : decode b_C_turnOff 5 = .ok (.aload_n 0, 1) := by decide +kernel
theorem d_C_turnOff_6 : decode b_C_turnOff 6 = .ok (.iconst (-1), 1) := by decide +kernel
theorem d_C_turnOff_7 : decode b_C_turnOff 7 = .ok (.putfield 26, 3) := by decide +kernel
theorem d_C_turnOff_10 : decode b_C_turnOff 10 = .ok (.return_, 1) := by decide +kernel
theorem d_C_turnOn_0 : decode b_C_turnOn 0 = .ok (.aload_n 0, 1) := by decide +kernel
theorem d_C_turnOn_1 : decode b_C_turnOn 1 = .ok (.iconst 1, 1) := by decide +kernel
theorem d_C_turnOn_2 : decode b_C_turnOn 2 = .ok (.putfield 22, 3) := by decide +kernel
theorem d_C_turnOn_5 : decode b_C_turnOn 5 = .ok (.return_, 1) := by decide +kernel
theorem d_C_tellCut_0 : decode b_C_tellCut 0 = .ok (.aload_n 0, 1) := by decide +kernel
theorem d_C_tellCut_1 : decode b_C_tellCut 1 = .ok (.iload_n 1, 1) := by decide +kernel
theorem d_C_tellCut_2 : decode b_C_tellCut 2 = .ok (.putfield 26, 3) := by decide +kernel
theorem d_C_tellCut_5 : decode b_C_tellCut 5 = .ok (.return_, 1) := by decide +kernel
theorem d_C_flip_0 : decode b_C_flip 0 = .ok (.aload_n 0, 1) := by decide +kernel
theorem d_C_flip_1 : decode b_C_flip 1 = .ok (.getfield 9, 3) := by decide +kernel
theorem d_C_flip_4 : decode b_C_flip 4 = .ok (.iload_n 1, 1) := by decide +kernel
theorem d_C_flip_5 : decode b_C_flip 5 = .ok (.bipush 16, 2) := by decide +kernel
theorem d_C_flip_7 : decode b_C_flip 7 = .ok (.imul, 1) := by decide +kernel
theorem d_C_flip_8 : decode b_C_flip 8 = .ok (.iload_n 2, 1) := by decide +kernel
theorem d_C_flip_9 : decode b_C_flip 9 = .ok (.iadd, 1) := by decide +kernel
theorem d_C_flip_10 : decode b_C_flip 10 = .ok (.dup2, 1) := by decide +kernel
theorem d_C_flip_11 : decode b_C_flip 11 = .ok (.iaload, 1) := by decide +kernel
theorem d_C_flip_12 : decode b_C_flip 12 = .ok (.iload_n 3, 1) := by decide +kernel
theorem d_C_flip_13 : decode b_C_flip 13 = .ok (.ixor, 1) := by decide +kernel
theorem d_C_flip_14 : decode b_C_flip 14 = .ok (.iastore, 1) := by decide +kernel
theorem d_C_flip_15 : decode b_C_flip 15 = .ok (.return_, 1) := by decide +kernel
theorem d_C_markFailed_0 : decode b_C_markFailed 0 = .ok (.aload_n 0, 1) := by decide +kernel
theorem d_C_markFailed_1 : decode b_C_markFailed 1 = .ok (.getfield 18, 3) := by decide +kernel
theorem d_C_markFailed_4 : decode b_C_markFailed 4 = .ok (.iload_n 1, 1) := by decide +kernel
theorem d_C_markFailed_5 : decode b_C_markFailed 5 = .ok (.iconst 1, 1) := by decide +kernel
theorem d_C_markFailed_6 : decode b_C_markFailed 6 = .ok (.bastore, 1) := by decide +kernel
theorem d_C_markFailed_7 : decode b_C_markFailed 7 = .ok (.return_, 1) := by decide +kernel
theorem d_G_recordCount_0 : decode b_G_recordCount 0 = .ok (.aload_n 0, 1) := by decide +kernel
theorem d_G_recordCount_1 : decode b_G_recordCount 1 = .ok (.getfield 21, 3) := by decide +kernel
theorem d_G_recordCount_4 : decode b_G_recordCount 4 = .ok (.ireturn, 1) := by decide +kernel
theorem d_G_ticketCount_0 : decode b_G_ticketCount 0 = .ok (.aload_n 0, 1) := by decide +kernel
theorem d_G_ticketCount_1 : decode b_G_ticketCount 1 = .ok (.getfield 25, 3) := by decide +kernel
theorem d_G_ticketCount_4 : decode b_G_ticketCount 4 = .ok (.ireturn, 1) := by decide +kernel
theorem d_G_hasTicket_0 : decode b_G_hasTicket 0 = .ok (.iload_n 1, 1) := by decide +kernel
theorem d_G_hasTicket_1 : decode b_G_hasTicket 1 = .ok (.iconst 1, 1) := by decide +kernel
theorem d_G_hasTicket_2 : decode b_G_hasTicket 2 = .ok (.if_icmp .lt (15), 3) := by decide +kernel
theorem d_G_hasTicket_5 : decode b_G_hasTicket 5 = .ok (.iload_n 1, 1) := by decide +kernel
theorem d_G_hasTicket_6 : decode b_G_hasTicket 6 = .ok (.aload_n 0, 1) := by decide +kernel
theorem d_G_hasTicket_7 : decode b_G_hasTicket 7 = .ok (.getfield 25, 3) := by decide +kernel
theorem d_G_hasTicket_10 : decode b_G_hasTicket 10 = .ok (.if_icmp .gt (7), 3) := by decide +kernel
theorem d_G_hasTicket_13 : decode b_G_hasTicket 13 = .ok (.iconst 1, 1) := by decide +kernel
theorem d_G_hasTicket_14 : decode b_G_hasTicket 14 = .ok (.goto (4), 3) := by decide +kernel
theorem d_G_hasTicket_17 : decode b_G_hasTicket 17 = .ok (.iconst 0, 1) := by decide +kernel
theorem d_G_hasTicket_18 : decode b_G_hasTicket 18 = .ok (.ireturn, 1) := by decide +kernel
theorem d_G_empty_0 : decode b_G_empty 0 = .ok (.aload_n 0, 1) := by decide +kernel
theorem d_G_empty_1 : decode b_G_empty 1 = .ok (.iconst 0, 1) := by decide +kernel
theorem d_G_empty_2 : decode b_G_empty 2 = .ok (.putfield 21, 3) := by decide +kernel
theorem d_G_empty_5 : decode b_G_empty 5 = .ok (.aload_n 0, 1) := by decide +kernel
theorem d_G_empty_6 : decode b_G_empty 6 = .ok (.iconst 0, 1) := by decide +kernel
theorem d_G_empty_7 : decode b_G_empty 7 = .ok (.putfield 25, 3) := by decide +kernel
theorem d_G_empty_10 : decode b_G_empty 10 = .ok (.return_, 1) := by decide +kernel
theorem d_S_durableCount_0 : decode b_S_durableCount 0 = .ok (.aload_n 0, 1) := by decide +kernel
theorem d_S_durableCount_1 : decode b_S_durableCount 1 = .ok (.getfield 32, 3) := by decide +kernel
theorem d_S_durableCount_4 : decode b_S_durableCount 4 = .ok (.ireturn, 1) := by decide +kernel
theorem d_S_latestSerial_0 : decode b_S_latestSerial 0 = .ok (.aload_n 0, 1) := by decide +kernel
theorem d_S_latestSerial_1 : decode b_S_latestSerial 1 = .ok (.getfield 29, 3) := by decide +kernel
theorem d_S_latestSerial_4 : decode b_S_latestSerial 4 = .ok (.ireturn, 1) := by decide +kernel
theorem d_S_cursorBlock_0 : decode b_S_cursorBlock 0 = .ok (.aload_n 0, 1) := by decide +kernel
theorem d_S_cursorBlock_1 : decode b_S_cursorBlock 1 = .ok (.getfield 25, 3) := by decide +kernel
theorem d_S_cursorBlock_4 : decode b_S_cursorBlock 4 = .ok (.ireturn, 1) := by decide +kernel
theorem d_S_isLive_0 : decode b_S_isLive 0 = .ok (.iconst 0, 1) := by decide +kernel
theorem d_S_isLive_1 : decode b_S_isLive 1 = .ok (.istore_n 2, 1) := by decide +kernel
theorem d_S_isLive_2 : decode b_S_isLive 2 = .ok (.iload_n 2, 1) := by decide +kernel
theorem d_S_isLive_3 : decode b_S_isLive 3 = .ok (.bipush 16, 2) := by decide +kernel
theorem d_S_isLive_5 : decode b_S_isLive 5 = .ok (.if_icmp .ge (21), 3) := by decide +kernel
theorem d_S_isLive_8 : decode b_S_isLive 8 = .ok (.aload_n 0, 1) := by decide +kernel
theorem d_S_isLive_9 : decode b_S_isLive 9 = .ok (.getfield 18, 3) := by decide +kernel
theorem d_S_isLive_12 : decode b_S_isLive 12 = .ok (.iload_n 2, 1) := by decide +kernel
theorem d_S_isLive_13 : decode b_S_isLive 13 = .ok (.iaload, 1) := by decide +kernel
theorem d_S_isLive_14 : decode b_S_isLive 14 = .ok (.iload_n 1, 1) := by decide +kernel
theorem d_S_isLive_15 : decode b_S_isLive 15 = .ok (.if_icmp .ne (5), 3) := by decide +kernel
theorem d_S_isLive_18 : decode b_S_isLive 18 = .ok (.iconst 1, 1) := by decide +kernel
theorem d_S_isLive_19 : decode b_S_isLive 19 = .ok (.ireturn, 1) := by decide +kernel
theorem d_S_isLive_20 : decode b_S_isLive 20 = .ok (.iinc 2 1, 3) := by decide +kernel
theorem d_S_isLive_23 : decode b_S_isLive 23 = .ok (.goto (-21), 3) := by decide +kernel
theorem d_S_isLive_26 : decode b_S_isLive 26 = .ok (.iconst 0, 1) := by decide +kernel
theorem d_S_isLive_27 : decode b_S_isLive 27 = .ok (.ireturn, 1) := by decide +kernel
theorem d_S_livePageCount_0 : decode b_S_livePageCount 0 = .ok (.iconst 0, 1) := by decide +kernel
theorem d_S_livePageCount_1 : decode b_S_livePageCount 1 = .ok (.istore_n 1, 1) := by decide +kernel
theorem d_S_livePageCount_2 : decode b_S_livePageCount 2 = .ok (.iconst 0, 1) := by decide +kernel
theorem d_S_livePageCount_3 : decode b_S_livePageCount 3 = .ok (.istore_n 2, 1) := by decide +kernel
theorem d_S_livePageCount_4 : decode b_S_livePageCount 4 = .ok (.iload_n 2, 1) := by decide +kernel
theorem d_S_livePageCount_5 : decode b_S_livePageCount 5 = .ok (.bipush 32, 2) := by decide +kernel
theorem d_S_livePageCount_7 : decode b_S_livePageCount 7 = .ok (.if_icmp .ge (20), 3) := by decide +kernel
theorem d_S_livePageCount_10 : decode b_S_livePageCount 10 = .ok (.aload_n 0, 1) := by decide +kernel
theorem d_S_livePageCount_11 : decode b_S_livePageCount 11 = .ok (.iload_n 2, 1) := by decide +kernel
theorem d_S_livePageCount_12 : decode b_S_livePageCount 12 = .ok (.invokevirtual 39, 3) := by decide +kernel
theorem d_S_livePageCount_15 : decode b_S_livePageCount 15 = .ok (.ifCond .eq (6), 3) := by decide +kernel
theorem d_S_livePageCount_18 : decode b_S_livePageCount 18 = .ok (.iinc 1 1, 3) := by decide +kernel
theorem d_S_livePageCount_21 : decode b_S_livePageCount 21 = .ok (.iinc 2 1, 3) := by decide +kernel
theorem d_S_livePageCount_24 : decode b_S_livePageCount 24 = .ok (.goto (-20), 3) := by decide +kernel
theorem d_S_livePageCount_27 : decode b_S_livePageCount 27 = .ok (.iload_n 1, 1) := by decide +kernel
theorem d_S_livePageCount_28 : decode b_S_livePageCount 28 = .ok (.ireturn, 1) := by decide +kernel
theorem d_R_forgetReadings_0 : decode b_R_forgetReadings 0 = .ok (.aload_n 0, 1) := by decide +kernel
theorem d_R_forgetReadings_1 : decode b_R_forgetReadings 1 = .ok (.iconst 0, 1) := by decide +kernel
theorem d_R_forgetReadings_2 : decode b_R_forgetReadings 2 = .ok (.putfield 41, 3) := by decide +kernel
theorem d_R_forgetReadings_5 : decode b_R_forgetReadings 5 = .ok (.aload_n 0, 1) := by decide +kernel
theorem d_R_forgetReadings_6 : decode b_R_forgetReadings 6 = .ok (.iconst 0, 1) := by decide +kernel
theorem d_R_forgetReadings_7 : decode b_R_forgetReadings 7 = .ok (.putfield 45, 3) := by decide +kernel
theorem d_R_forgetReadings_10 : decode b_R_forgetReadings 10 = .ok (.return_, 1) := by decide +kernel
end
section
set_option maxHeartbeats 4000000 in
set_option maxRecDepth 100000 in
theorem c_C_isPowered (l : Launch) (dC : Nat → ClassId) (dI : Nat → Nat → Nat) (ad cd : Nat → Nat) (w wr fl : Nat → Int32) (pw sc : Int32) (lw rot vb : Nat → Int32) (rec tk : Int32) (live row : Nat → Int32) (cur ser dur wo : Int32) (bts : Nat → Int32) (us : Int32) (act : Nat → Int32) (rd rs : Int32)  (hpw : narrow .boolean (.int pw) = .int pw) : Met l y_C_isPowered w_C_isPowered ({ frames := 0, cells := 0, slots := 0, locals := 0 }) (xR (dC, dI) vwCl (xt cd) (xw ad cd w wr fl pw sc lw rot vb rec tk live row cur ser dur wo bts us act rd rs) [.ref (ad 2)]) (vp_Si (fun r => r = pw)) 0 0 (fun _ => False) := by
  refine Met.ofW (cc := b_C_isPowered) (maxL := 1) (ret := (some (.boolean))) (by decide) rfl ?_
  intro P e s m args below meth c0 s₁ B hml hv
  obtain ⟨rfl, hP, hK⟩ := hv
  have hx := B.exec
  have hb := B.bytes
  have hr := B.returns
  have hts := atoms_spec (ws := w_C_isPowered) B.pre
  have hown : s.vm.findClass R_C = some m.cls := findClass_of_methodNamed B.named
  have hlocks := B.notSynchronized
  have hl := lv_entry ([.ref (ad 2)]) (n := 1) (Nat.le_of_ble_eq_true rfl)
  rw [lg_entry_eq]
  generalize (lg_sl ([.ref (ad 2)]) ++ List.replicate (1 - (lg_sl ([.ref (ad 2)])).length) Slot.unset).toArray = ls at hl ⊢
  have hl : lv_has ls 1 [(0, .ref (ad 2))] := hl
  refine lv_aload_n hx hb d_C_isPowered_0 rfl (lv_at hl 0 rfl) ?_
  refine va_get (D := (dC, dI)) (ci := 0) (v := .int pw) (C := R_C) (T := F_C) (N := 5) hx hb hts (fun w h => List.mem_cons_of_mem _ (in_C w h)) hown hK hP 2 rfl rfl 3 (by decide) (hts (.fieldLink R_C 22 R_C "powered" "Z") (List.mem_cons_of_mem _ t_37)) (fun _ h9 => h9) rfl d_C_isPowered_1 ?_
  exact W.zret (v := pw) hx hb hr (hpw) (fun t ht hW => ⟨pw, rfl, by first | rfl | trivial | omega, ht⟩) (fun q hq => by cases hq) d_C_isPowered_4
set_option maxHeartbeats 4000000 in
set_option maxRecDepth 100000 in
theorem c_C_read (l : Launch) (dC : Nat → ClassId) (dI : Nat → Nat → Nat) (ad cd : Nat → Nat) (w wr fl : Nat → Int32) (pw sc : Int32) (lw rot vb : Nat → Int32) (rec tk : Int32) (live row : Nat → Int32) (cur ser dur wo : Int32) (bts : Nat → Int32) (us : Int32) (act : Nat → Int32) (rd rs : Int32) (pa k : Nat) (hp : pa < 32) (hk : k < 16) : Met l y_C_read w_C_read ({ frames := 0, cells := 0, slots := 0, locals := 0 }) (xR (dC, dI) vwCl (xt cd) (xw ad cd w wr fl pw sc lw rot vb rec tk live row cur ser dur wo bts us act rd rs) [.ref (ad 2), .int (nI pa), .int (nI k)]) (vp_Si (fun r => r = w (16 * pa + k))) 0 0 (fun _ => False) := by
  refine Met.ofW (cc := b_C_read) (maxL := 3) (ret := (some (.int))) (by decide) rfl ?_
  intro P e s m args below meth c0 s₁ B hml hv
  obtain ⟨rfl, hP, hK⟩ := hv
  have hx := B.exec
  have hb := B.bytes
  have hr := B.returns
  have hts := atoms_spec (ws := w_C_read) B.pre
  have hown : s.vm.findClass R_C = some m.cls := findClass_of_methodNamed B.named
  have hlocks := B.notSynchronized
  have hl := lv_entry ([.ref (ad 2), .int (nI pa), .int (nI k)]) (n := 3) (Nat.le_of_ble_eq_true rfl)
  rw [lg_entry_eq]
  generalize (lg_sl ([.ref (ad 2), .int (nI pa), .int (nI k)]) ++ List.replicate (3 - (lg_sl ([.ref (ad 2), .int (nI pa), .int (nI k)])).length) Slot.unset).toArray = ls at hl ⊢
  have hl : lv_has ls 3 [(0, .ref (ad 2)), (1, .int (nI pa)), (2, .int (nI k))] := hl
  refine lv_aload_n hx hb d_C_read_0 rfl (lv_at hl 0 rfl) ?_
  refine va_get (D := (dC, dI)) (ci := 0) (v := .ref (ad 8)) (C := R_C) (T := F_C) (N := 5) hx hb hts (fun w h => List.mem_cons_of_mem _ (in_C w h)) hown hK hP 2 rfl rfl 0 (by decide) (hts (.fieldLink R_C 9 R_C "words" "[I") (List.mem_cons_of_mem _ t_34)) (fun _ h9 => h9) rfl d_C_read_1 ?_
  refine lv_iload_n hx hb d_C_read_4 rfl (lv_at hl 1 rfl) ?_
  refine lv_bipush (v := nI 16) hx hb d_C_read_5 (by decide) ?_
  refine lv_imul hx hb d_C_read_7 ?_
  refine tp_i (y := nI (pa * 16)) (pk_mul _ _) ?_
  refine lv_iload_n hx hb d_C_read_8 rfl (lv_at hl 2 rfl) ?_
  refine lv_iadd hx hb d_C_read_9 ?_
  refine tp_i (y := nI ((pa * 16) + k)) (nI_add _ _) ?_
  refine va_iald hx hb hK hP 8 3 rfl rfl (vp_in_nI (by omega) (by decide)) d_C_read_10 ?_
  refine tp_i (y := w ((pa * 16) + k)) (by rw [nI_clamp (by omega)]) ?_
  exact W.iret (v := w ((pa * 16) + k)) hx hb hr (fun t ht hW => ⟨w ((pa * 16) + k), rfl, by rw [Nat.mul_comm 16 pa], ht⟩) (fun q hq => by cases hq) d_C_read_11
set_option maxHeartbeats 4000000 in
set_option maxRecDepth 100000 in
theorem c_C_wearAt (l : Launch) (dC : Nat → ClassId) (dI : Nat → Nat → Nat) (ad cd : Nat → Nat) (w wr fl : Nat → Int32) (pw sc : Int32) (lw rot vb : Nat → Int32) (rec tk : Int32) (live row : Nat → Int32) (cur ser dur wo : Int32) (bts : Nat → Int32) (us : Int32) (act : Nat → Int32) (rd rs : Int32) (b : Nat) (hp : b < 8) : Met l y_C_wearAt w_C_wearAt ({ frames := 0, cells := 0, slots := 0, locals := 0 }) (xR (dC, dI) vwCl (xt cd) (xw ad cd w wr fl pw sc lw rot vb rec tk live row cur ser dur wo bts us act rd rs) [.ref (ad 2), .int (nI b)]) (vp_Si (fun r => r = wr b)) 0 0 (fun _ => False) := by
  refine Met.ofW (cc := b_C_wearAt) (maxL := 2) (ret := (some (.int))) (by decide) rfl ?_
  intro P e s m args below meth c0 s₁ B hml hv
  obtain ⟨rfl, hP, hK⟩ := hv
  have hx := B.exec
  have hb := B.bytes
  have hr := B.returns
  have hts := atoms_spec (ws := w_C_wearAt) B.pre
  have hown : s.vm.findClass R_C = some m.cls := findClass_of_methodNamed B.named
  have hlocks := B.notSynchronized
  have hl := lv_entry ([.ref (ad 2), .int (nI b)]) (n := 2) (Nat.le_of_ble_eq_true rfl)
  rw [lg_entry_eq]
  generalize (lg_sl ([.ref (ad 2), .int (nI b)]) ++ List.replicate (2 - (lg_sl ([.ref (ad 2), .int (nI b)])).length) Slot.unset).toArray = ls at hl ⊢
  have hl : lv_has ls 2 [(0, .ref (ad 2)), (1, .int (nI b))] := hl
  refine lv_aload_n hx hb d_C_wearAt_0 rfl (lv_at hl 0 rfl) ?_
  refine va_get (D := (dC, dI)) (ci := 0) (v := .ref (ad 9)) (C := R_C) (T := F_C) (N := 5) hx hb hts (fun w h => List.mem_cons_of_mem _ (in_C w h)) hown hK hP 2 rfl rfl 1 (by decide) (hts (.fieldLink R_C 15 R_C "wear" "[I") (List.mem_cons_of_mem _ t_35)) (fun _ h9 => h9) rfl d_C_wearAt_1 ?_
  refine lv_iload_n hx hb d_C_wearAt_4 rfl (lv_at hl 1 rfl) ?_
  refine va_iald hx hb hK hP 9 4 rfl rfl (vp_in_nI (by omega) (by decide)) d_C_wearAt_5 ?_
  refine tp_i (y := wr b) (by rw [nI_clamp (by omega)]) ?_
  exact W.iret (v := wr b) hx hb hr (fun t ht hW => ⟨wr b, rfl, by first | rfl | trivial | omega, ht⟩) (fun q hq => by cases hq) d_C_wearAt_6
set_option maxHeartbeats 4000000 in
set_option maxRecDepth 100000 in
theorem c_C_isFree (l : Launch) (dC : Nat → ClassId) (dI : Nat → Nat → Nat) (ad cd : Nat → Nat) (w wr fl : Nat → Int32) (pw sc : Int32) (lw rot vb : Nat → Int32) (rec tk : Int32) (live row : Nat → Int32) (cur ser dur wo : Int32) (bts : Nat → Int32) (us : Int32) (act : Nat → Int32) (rd rs : Int32) (pa : Nat) (hp : pa < 32) : Met l y_C_isFree w_C_isFree ({ frames := 0, cells := 0, slots := 0, locals := 0 }) (xR (dC, dI) vwCl (xt cd) (xw ad cd w wr fl pw sc lw rot vb rec tk live row cur ser dur wo bts us act rd rs) [.ref (ad 2), .int (nI pa)]) (vp_Si (fun r => (r = 1 ∧ fp w pa) ∨ (r = 0 ∧ ¬ fp w pa))) 0 0 (fun _ => False) := by
  refine Met.ofW (cc := b_C_isFree) (maxL := 4) (ret := (some (.boolean))) (by decide) rfl ?_
  intro P e s m args below meth c0 s₁ B hml hv
  obtain ⟨rfl, hP, hK⟩ := hv
  have hx := B.exec
  have hb := B.bytes
  have hr := B.returns
  have hts := atoms_spec (ws := w_C_isFree) B.pre
  have hown : s.vm.findClass R_C = some m.cls := findClass_of_methodNamed B.named
  have hlocks := B.notSynchronized
  have hl := lv_entry ([.ref (ad 2), .int (nI pa)]) (n := 4) (Nat.le_of_ble_eq_true rfl)
  rw [lg_entry_eq]
  generalize (lg_sl ([.ref (ad 2), .int (nI pa)]) ++ List.replicate (4 - (lg_sl ([.ref (ad 2), .int (nI pa)])).length) Slot.unset).toArray = ls at hl ⊢
  have hl : lv_has ls 4 [(0, .ref (ad 2)), (1, .int (nI pa))] := hl
  refine lv_iload_n hx hb d_C_isFree_0 rfl (lv_at hl 1 rfl) ?_
  refine lv_bipush (v := nI 16) hx hb d_C_isFree_1 (by decide) ?_
  refine lv_imul hx hb d_C_isFree_3 ?_
  refine tp_i (y := nI (pa * 16)) (pk_mul _ _) ?_
  refine lv_istore_n hx hb d_C_isFree_4 rfl hl (by decide) rfl (fun ls hl => ?_)
  have hl : lv_has ls 4 [(2, .int (nI (pa * 16))), (0, .ref (ad 2)), (1, .int (nI pa))] := hl
  refine lv_iload_n hx hb d_C_isFree_5 rfl (lv_at hl 0 rfl) ?_
  refine lv_istore_n hx hb d_C_isFree_6 rfl hl (by decide) rfl (fun ls hl => ?_)
  have hl : lv_has ls 4 [(3, .int (nI (pa * 16))), (2, .int (nI (pa * 16))), (0, .ref (ad 2)), (1, .int (nI pa))] := hl
  have lp7 : ∀ (n : Nat) (k : Nat) (ls : Array Slot), (16 - k) < n → (k ≤ 16) → (∀ i, i < k → w (16 * pa + i) = -1) → lv_has ls 4 [(0, .ref (ad 2)), (1, .int (nI pa)), (2, .int (nI (pa * 16))), (3, .int (nI (pa * 16 + k)))] → W P l e (headSpec w_C_isFree ({ frames := 0, cells := 0, slots := 0, locals := 0 })).room s m (([.ref (ad 2), .int (nI pa)] : List Value).toArray) below meth c0 s.heap [] 0 0 (MQ below (vp_Si (fun r => (r = 1 ∧ fp w pa) ∨ (r = 0 ∧ ¬ fp w pa))) (([.ref (ad 2), .int (nI pa)] : List Value).toArray) s 0 0 (fun _ => False)) (F0 m 7 ls []) := by
    intro n
    induction n with
    | zero => intro k ls hm; intros; omega
    | succ n ih7 =>
      intro k ls hm hk hf hl
      refine lv_iload_n hx hb d_C_isFree_7 rfl (lv_at hl 3 rfl) ?_
      refine lv_iload_n hx hb d_C_isFree_8 rfl (lv_at hl 2 rfl) ?_
      refine lv_bipush (v := nI 16) hx hb d_C_isFree_9 (by decide) ?_
      refine lv_iadd hx hb d_C_isFree_11 ?_
      refine tp_i (y := nI ((pa * 16) + 16)) (nI_add _ _) ?_
      refine lv_icmp_ge (tgt := 33) hx hb d_C_isFree_12 (by decide) (fun c12 => ?_) (fun c12 => ?_)
      ·
        have c12 := cd_ge_t (by omega) (by omega) c12
        refine lv_iconst (v := 1) hx hb d_C_isFree_33 (by decide) ?_
        exact W.zret (v := 1) hx hb hr (by first | rfl | decide | assumption) (fun t ht hW => ⟨1, rfl, Or.inl ⟨rfl, fun i hi => hf i (by omega)⟩, ht⟩) (fun q hq => by cases hq) d_C_isFree_34
      ·
        have c12 := cd_ge_f (by omega) (by omega) c12
        refine lv_aload_n hx hb d_C_isFree_15 rfl (lv_at hl 0 rfl) ?_
        refine va_get (D := (dC, dI)) (ci := 0) (v := .ref (ad 8)) (C := R_C) (T := F_C) (N := 5) hx hb hts (fun w h => List.mem_cons_of_mem _ (in_C w h)) hown hK hP 2 rfl rfl 0 (by decide) (hts (.fieldLink R_C 9 R_C "words" "[I") (List.mem_cons_of_mem _ t_34)) (fun _ h9 => h9) rfl d_C_isFree_16 ?_
        refine lv_iload_n hx hb d_C_isFree_19 rfl (lv_at hl 3 rfl) ?_
        refine va_iald hx hb hK hP 8 3 rfl rfl (vp_in_nI (by omega) (by decide)) d_C_isFree_20 ?_
        refine tp_i (y := w (pa * 16 + k)) (by rw [nI_clamp (by omega)]) ?_
        refine lv_iconst (v := (-1)) hx hb d_C_isFree_21 (by decide) ?_
        refine lv_icmp_eq (tgt := 27) hx hb d_C_isFree_22 (by decide) (fun c22 => ?_) (fun c22 => ?_)
        ·
          refine lv_iinc (k := 3) (v := nI ((pa * 16 + k) + 1)) hx hb d_C_isFree_27 hl rfl (nI_1 _) (by decide) rfl (fun ls hl => ?_)
          have hl : lv_has ls 4 [(3, .int (nI ((pa * 16 + k) + 1))), (0, .ref (ad 2)), (1, .int (nI pa)), (2, .int (nI (pa * 16)))] := hl
          refine lv_goto (tgt := 7) hx hb d_C_isFree_30 (by decide) ?_
          exact ih7 (k + 1) ls (by omega) (by omega) (lt_s hf (by rw [Nat.mul_comm 16 pa]; exact c22)) (lv_sub hl [1, 2, 3, 0] rfl)
        ·
          refine lv_iconst (v := 0) hx hb d_C_isFree_25 (by decide) ?_
          exact W.zret (v := 0) hx hb hr (by first | rfl | decide | assumption) (fun t ht hW => ⟨0, rfl, Or.inr ⟨rfl, fun h => c22 (by have := h k (by omega); rw [Nat.mul_comm 16 pa] at this; exact this)⟩, ht⟩) (fun q hq => by cases hq) d_C_isFree_26
  exact lp7 _ 0 ls (Nat.lt_succ_self _) (by omega) (fun i hi => absurd hi (Nat.not_lt_zero i)) (lv_sub hl [2, 3, 1, 0] rfl)
set_option maxHeartbeats 4000000 in
set_option maxRecDepth 100000 in
theorem c_C_isRight_f (l : Launch) (dC : Nat → ClassId) (dI : Nat → Nat → Nat) (ad cd : Nat → Nat) (w wr fl : Nat → Int32) (pw sc : Int32) (lw rot vb : Nat → Int32) (rec tk : Int32) (live row : Nat → Int32) (cur ser dur wo : Int32) (bts : Nat → Int32) (us : Int32) (act : Nat → Int32) (rd rs : Int32) (pa : Nat) (hp : pa < 32) (hw : w (16 * pa + 0) = -1) : Met l y_C_isRight w_C_isRight ({ frames := 1, cells := 0, slots := 0, locals := 22 }) (xR (dC, dI) vwCl (xt cd) (xw ad cd w wr fl pw sc lw rot vb rec tk live row cur ser dur wo bts us act rd rs) [.ref (ad 2), .int (nI pa)]) (vp_Si (fun r => r = 0)) 0 0 (fun _ => False) := by
  refine Met.ofW (cc := b_C_isRight) (maxL := 3) (ret := (some (.boolean))) (by decide) rfl ?_
  intro P e s m args below meth c0 s₁ B hml hv
  obtain ⟨rfl, hP, hK⟩ := hv
  have hx := B.exec
  have hb := B.bytes
  have hr := B.returns
  have hts := atoms_spec (ws := w_C_isRight) B.pre
  have hown : s.vm.findClass R_C = some m.cls := findClass_of_methodNamed B.named
  have hlocks := B.notSynchronized
  have hl := lv_entry ([.ref (ad 2), .int (nI pa)]) (n := 3) (Nat.le_of_ble_eq_true rfl)
  rw [lg_entry_eq]
  generalize (lg_sl ([.ref (ad 2), .int (nI pa)]) ++ List.replicate (3 - (lg_sl ([.ref (ad 2), .int (nI pa)])).length) Slot.unset).toArray = ls at hl ⊢
  have hl : lv_has ls 3 [(0, .ref (ad 2)), (1, .int (nI pa))] := hl
  refine lv_aload_n hx hb d_C_isRight_0 rfl (lv_at hl 0 rfl) ?_
  refine lv_iload_n hx hb d_C_isRight_1 rfl (lv_at hl 1 rfl) ?_
  refine lv_iconst (v := nI 0) hx hb d_C_isRight_2 (by decide) ?_
  refine vp_callSi (va_runV (C := R_C) (As := [.int (nI pa), .int (nI 0)]) (rest := []) ⟨hx, hb, hml, hown, hts⟩ (c_C_read l dC dI ad cd w wr fl pw sc lw rot vb rec tk live row cur ser dur wo bts us act rd rs pa 0 (by omega) (by omega)) (cwV 2 hts (g_V t_164 t_165 t_166 t_3 t_167) rfl rfl rfl (by decide +kernel) ⟨by decide, by decide⟩) (xR_v hP hK 2 rfl rfl) rfl rfl hl.1 rfl (lv_room (Nat.le_of_ble_eq_true rfl)) d_C_isRight_3 ⟨Nat.le_refl _, Nat.le_refl _⟩).run (fun r3 q3 => ?_)
  subst q3
  refine lv_istore_n hx hb d_C_isRight_6 rfl hl (by decide) rfl (fun ls hl => ?_)
  have hl : lv_has ls 3 [(2, .int (w (16 * pa + 0))), (0, .ref (ad 2)), (1, .int (nI pa))] := hl
  refine lv_iload_n hx hb d_C_isRight_7 rfl (lv_at hl 0 rfl) ?_
  refine lv_if_le (tgt := 62) hx hb d_C_isRight_8 (by decide) (fun c8 => ?_) (fun c8 => ?_)
  ·
    refine lv_iconst (v := 0) hx hb d_C_isRight_62 (by decide) ?_
    exact W.zret (v := 0) hx hb hr (by first | rfl | decide | assumption) (fun t ht hW => ⟨0, rfl, by first | rfl | trivial | omega, ht⟩) (fun q hq => by cases hq) d_C_isRight_63
  ·
    exact absurd (show (w (16 * pa + 0) : Int32) ≤ 0 by rw [hw]; decide) c8
set_option maxHeartbeats 4000000 in
set_option maxRecDepth 100000 in
theorem c_C_freePagesOf_f (l : Launch) (dC : Nat → ClassId) (dI : Nat → Nat → Nat) (ad cd : Nat → Nat) (w wr fl : Nat → Int32) (pw sc : Int32) (lw rot vb : Nat → Int32) (rec tk : Int32) (live row : Nat → Int32) (cur ser dur wo : Int32) (bts : Nat → Int32) (us : Int32) (act : Nat → Int32) (rd rs : Int32) (b : Nat) (hp : b < 8) (hw : ∀ i, i < 512 → w i = -1) : Met l y_C_freePagesOf w_C_freePagesOf ({ frames := 1, cells := 0, slots := 0, locals := 23 }) (xR (dC, dI) vwCl (xt cd) (xw ad cd w wr fl pw sc lw rot vb rec tk live row cur ser dur wo bts us act rd rs) [.ref (ad 2), .int (nI b)]) (vp_Si (fun r => r = nI 4)) 0 0 (fun _ => False) := by
  refine Met.ofW (cc := b_C_freePagesOf) (maxL := 4) (ret := (some (.int))) (by decide) rfl ?_
  intro P e s m args below meth c0 s₁ B hml hv
  obtain ⟨rfl, hP, hK⟩ := hv
  have hx := B.exec
  have hb := B.bytes
  have hr := B.returns
  have hts := atoms_spec (ws := w_C_freePagesOf) B.pre
  have hown : s.vm.findClass R_C = some m.cls := findClass_of_methodNamed B.named
  have hlocks := B.notSynchronized
  have hl := lv_entry ([.ref (ad 2), .int (nI b)]) (n := 4) (Nat.le_of_ble_eq_true rfl)
  rw [lg_entry_eq]
  generalize (lg_sl ([.ref (ad 2), .int (nI b)]) ++ List.replicate (4 - (lg_sl ([.ref (ad 2), .int (nI b)])).length) Slot.unset).toArray = ls at hl ⊢
  have hl : lv_has ls 4 [(0, .ref (ad 2)), (1, .int (nI b))] := hl
  refine lv_iconst (v := nI 0) hx hb d_C_freePagesOf_0 (by decide) ?_
  refine lv_istore_n hx hb d_C_freePagesOf_1 rfl hl (by decide) rfl (fun ls hl => ?_)
  have hl : lv_has ls 4 [(2, .int (nI 0)), (0, .ref (ad 2)), (1, .int (nI b))] := hl
  refine lv_iload_n hx hb d_C_freePagesOf_2 rfl (lv_at hl 2 rfl) ?_
  refine lv_iconst (v := nI 4) hx hb d_C_freePagesOf_3 (by decide) ?_
  refine lv_imul hx hb d_C_freePagesOf_4 ?_
  refine tp_i (y := nI (b * 4)) (pk_mul _ _) ?_
  refine lv_istore_n hx hb d_C_freePagesOf_5 rfl hl (by decide) rfl (fun ls hl => ?_)
  have hl : lv_has ls 4 [(3, .int (nI (b * 4))), (2, .int (nI 0)), (0, .ref (ad 2)), (1, .int (nI b))] := hl
  have lp6 : ∀ (n : Nat) (k : Nat) (ls : Array Slot), (4 - k) < n → (k ≤ 4) → lv_has ls 4 [(0, .ref (ad 2)), (1, .int (nI b)), (2, .int (nI k)), (3, .int (nI (b * 4 + k)))] → W P l e (headSpec w_C_freePagesOf ({ frames := 1, cells := 0, slots := 0, locals := 23 })).room s m (([.ref (ad 2), .int (nI b)] : List Value).toArray) below meth c0 s.heap [] 0 0 (MQ below (vp_Si (fun r => r = nI 4)) (([.ref (ad 2), .int (nI b)] : List Value).toArray) s 0 0 (fun _ => False)) (F0 m 6 ls []) := by
    intro n
    induction n with
    | zero => intro k ls hm; intros; omega
    | succ n ih6 =>
      intro k ls hm hk hl
      refine lv_iload_n hx hb d_C_freePagesOf_6 rfl (lv_at hl 3 rfl) ?_
      refine lv_iload_n hx hb d_C_freePagesOf_7 rfl (lv_at hl 1 rfl) ?_
      refine lv_iconst (v := nI 1) hx hb d_C_freePagesOf_8 (by decide) ?_
      refine lv_iadd hx hb d_C_freePagesOf_9 ?_
      refine tp_i (y := nI (b + 1)) (nI_add _ _) ?_
      refine lv_iconst (v := nI 4) hx hb d_C_freePagesOf_10 (by decide) ?_
      refine lv_imul hx hb d_C_freePagesOf_11 ?_
      refine tp_i (y := nI ((b + 1) * 4)) (pk_mul _ _) ?_
      refine lv_icmp_ge (tgt := 32) hx hb d_C_freePagesOf_12 (by decide) (fun c12 => ?_) (fun c12 => ?_)
      ·
        have c12 := cd_ge_t (by omega) (by omega) c12
        refine lv_iload_n hx hb d_C_freePagesOf_32 rfl (lv_at hl 2 rfl) ?_
        exact W.iret (v := nI k) hx hb hr (fun t ht hW => ⟨nI k, rfl, by rw [show k = 4 by omega], ht⟩) (fun q hq => by cases hq) d_C_freePagesOf_33
      ·
        have c12 := cd_ge_f (by omega) (by omega) c12
        refine lv_aload_n hx hb d_C_freePagesOf_15 rfl (lv_at hl 0 rfl) ?_
        refine lv_iload_n hx hb d_C_freePagesOf_16 rfl (lv_at hl 3 rfl) ?_
        refine vp_callSi (va_runV (C := R_C) (As := [.int (nI (b * 4 + k))]) (rest := []) ⟨hx, hb, hml, hown, hts⟩ (c_C_isFree l dC dI ad cd w wr fl pw sc lw rot vb rec tk live row cur ser dur wo bts us act rd rs (b * 4 + k) (by omega)) (cwV 1 hts (g_V t_258 t_259 t_260 t_3 t_261) rfl rfl rfl (by decide +kernel) ⟨by decide, by decide⟩) (xR_v hP hK 2 rfl rfl) rfl rfl hl.1 rfl (lv_room (Nat.le_of_ble_eq_true rfl)) d_C_freePagesOf_17 ⟨Nat.le_refl _, Nat.le_refl _⟩).run (fun r17 q17 => ?_)
        obtain ⟨rfl, -⟩ : r17 = 1 ∧ fp w (b * 4 + k) := q17.resolve_right (fun z => z.2 (fun i hi => hw _ (by omega)))
        refine lv_if_eq (tgt := 26) hx hb d_C_freePagesOf_20 (by decide) (fun c20 => ?_) (fun c20 => ?_)
        ·
          exact absurd c20 (by decide)
        ·
          refine lv_iinc (k := 2) (v := nI (k + 1)) hx hb d_C_freePagesOf_23 hl rfl (nI_1 _) (by decide) rfl (fun ls hl => ?_)
          have hl : lv_has ls 4 [(2, .int (nI (k + 1))), (0, .ref (ad 2)), (1, .int (nI b)), (3, .int (nI (b * 4 + k)))] := hl
          refine lv_iinc (k := 3) (v := nI ((b * 4 + k) + 1)) hx hb d_C_freePagesOf_26 hl rfl (nI_1 _) (by decide) rfl (fun ls hl => ?_)
          have hl : lv_has ls 4 [(3, .int (nI ((b * 4 + k) + 1))), (2, .int (nI (k + 1))), (0, .ref (ad 2)), (1, .int (nI b))] := hl
          refine lv_goto (tgt := 6) hx hb d_C_freePagesOf_29 (by decide) ?_
          exact ih6 (k + 1) ls (by omega) (by omega) (lv_sub hl [2, 3, 1, 0] rfl)
  exact lp6 _ 0 ls (Nat.lt_succ_self _) (by omega) (lv_sub hl [2, 3, 1, 0] rfl)
set_option maxHeartbeats 4000000 in
set_option maxRecDepth 100000 in
theorem c_C_usableFreePages_f (l : Launch) (dC : Nat → ClassId) (dI : Nat → Nat → Nat) (ad cd : Nat → Nat) (w wr fl : Nat → Int32) (pw sc : Int32) (lw rot vb : Nat → Int32) (rec tk : Int32) (live row : Nat → Int32) (cur ser dur wo : Int32) (bts : Nat → Int32) (us : Int32) (act : Nat → Int32) (rd rs : Int32)  (hw : ∀ i, i < 512 → w i = -1) (hfl : ∀ i, i < 8 → fl i = 0) : Met l y_C_usableFreePages w_C_usableFreePages ({ frames := 2, cells := 0, slots := 0, locals := 46 }) (xR (dC, dI) vwCl (xt cd) (xw ad cd w wr fl pw sc lw rot vb rec tk live row cur ser dur wo bts us act rd rs) [.ref (ad 2)]) (vp_Si (fun r => r = nI 32)) 0 0 (fun _ => False) := by
  refine Met.ofW (cc := b_C_usableFreePages) (maxL := 3) (ret := (some (.int))) (by decide) rfl ?_
  intro P e s m args below meth c0 s₁ B hml hv
  obtain ⟨rfl, hP, hK⟩ := hv
  have hx := B.exec
  have hb := B.bytes
  have hr := B.returns
  have hts := atoms_spec (ws := w_C_usableFreePages) B.pre
  have hown : s.vm.findClass R_C = some m.cls := findClass_of_methodNamed B.named
  have hlocks := B.notSynchronized
  have hl := lv_entry ([.ref (ad 2)]) (n := 3) (Nat.le_of_ble_eq_true rfl)
  rw [lg_entry_eq]
  generalize (lg_sl ([.ref (ad 2)]) ++ List.replicate (3 - (lg_sl ([.ref (ad 2)])).length) Slot.unset).toArray = ls at hl ⊢
  have hl : lv_has ls 3 [(0, .ref (ad 2))] := hl
  refine lv_iconst (v := nI 0) hx hb d_C_usableFreePages_0 (by decide) ?_
  refine lv_istore_n hx hb d_C_usableFreePages_1 rfl hl (by decide) rfl (fun ls hl => ?_)
  have hl : lv_has ls 3 [(1, .int (nI 0)), (0, .ref (ad 2))] := hl
  refine lv_iconst (v := nI 0) hx hb d_C_usableFreePages_2 (by decide) ?_
  refine lv_istore_n hx hb d_C_usableFreePages_3 rfl hl (by decide) rfl (fun ls hl => ?_)
  have hl : lv_has ls 3 [(2, .int (nI 0)), (1, .int (nI 0)), (0, .ref (ad 2))] := hl
  have lp4 : ∀ (n : Nat) (k : Nat) (ls : Array Slot), (8 - k) < n → (k ≤ 8) → lv_has ls 3 [(0, .ref (ad 2)), (1, .int (nI (4 * k))), (2, .int (nI k))] → W P l e (headSpec w_C_usableFreePages ({ frames := 2, cells := 0, slots := 0, locals := 46 })).room s m (([.ref (ad 2)] : List Value).toArray) below meth c0 s.heap [] 0 0 (MQ below (vp_Si (fun r => r = nI 32)) (([.ref (ad 2)] : List Value).toArray) s 0 0 (fun _ => False)) (F0 m 4 ls []) := by
    intro n
    induction n with
    | zero => intro k ls hm; intros; omega
    | succ n ih4 =>
      intro k ls hm hk hl
      refine lv_iload_n hx hb d_C_usableFreePages_4 rfl (lv_at hl 2 rfl) ?_
      refine lv_bipush (v := nI 8) hx hb d_C_usableFreePages_5 (by decide) ?_
      refine lv_icmp_ge (tgt := 33) hx hb d_C_usableFreePages_7 (by decide) (fun c7 => ?_) (fun c7 => ?_)
      ·
        have c7 := cd_ge_t (by omega) (by omega) c7
        refine lv_iload_n hx hb d_C_usableFreePages_33 rfl (lv_at hl 1 rfl) ?_
        exact W.iret (v := nI (4 * k)) hx hb hr (fun t ht hW => ⟨nI (4 * k), rfl, by rw [show k = 8 by omega], ht⟩) (fun q hq => by cases hq) d_C_usableFreePages_34
      ·
        have c7 := cd_ge_f (by omega) (by omega) c7
        refine lv_aload_n hx hb d_C_usableFreePages_10 rfl (lv_at hl 0 rfl) ?_
        refine va_get (D := (dC, dI)) (ci := 0) (v := .ref (ad 10)) (C := R_C) (T := F_C) (N := 5) hx hb hts (fun w h => List.mem_cons_of_mem _ (in_C w h)) hown hK hP 2 rfl rfl 2 (by decide) (hts (.fieldLink R_C 18 R_C "failed" "[Z") (List.mem_cons_of_mem _ t_36)) (fun _ h9 => h9) rfl d_C_usableFreePages_11 ?_
        refine lv_iload_n hx hb d_C_usableFreePages_14 rfl (lv_at hl 2 rfl) ?_
        refine va_zald hx hb hK hP 10 5 rfl rfl (vp_in_nI (by omega) (by decide)) d_C_usableFreePages_15 ?_
        refine tp_i (y := fl k) (by rw [nI_clamp (by omega)]) ?_
        refine lv_if_ne (tgt := 27) hx hb d_C_usableFreePages_16 (by decide) (fun c16 => ?_) (fun c16 => ?_)
        ·
          exact absurd (hfl k (by omega)) c16
        ·
          refine lv_iload_n hx hb d_C_usableFreePages_19 rfl (lv_at hl 1 rfl) ?_
          refine lv_aload_n hx hb d_C_usableFreePages_20 rfl (lv_at hl 0 rfl) ?_
          refine lv_iload_n hx hb d_C_usableFreePages_21 rfl (lv_at hl 2 rfl) ?_
          refine vp_callSi (va_runV (C := R_C) (As := [.int (nI k)]) (rest := [.int (nI (4 * k))]) ⟨hx, hb, hml, hown, hts⟩ (c_C_freePagesOf_f l dC dI ad cd w wr fl pw sc lw rot vb rec tk live row cur ser dur wo bts us act rd rs k (by omega) (hw)) (cwV 1 hts (g_V t_254 t_255 t_256 t_3 t_257) rfl rfl rfl (by decide +kernel) ⟨by decide, by decide⟩) (xR_v hP hK 2 rfl rfl) rfl rfl hl.1 rfl (lv_room (Nat.le_of_ble_eq_true rfl)) d_C_usableFreePages_22 ⟨Nat.le_refl _, Nat.le_refl _⟩).run (fun r22 q22 => ?_)
          subst q22
          refine lv_iadd hx hb d_C_usableFreePages_25 ?_
          refine tp_i (y := nI ((4 * k) + 4)) (nI_add _ _) ?_
          refine lv_istore_n hx hb d_C_usableFreePages_26 rfl hl (by decide) rfl (fun ls hl => ?_)
          have hl : lv_has ls 3 [(1, .int (nI ((4 * k) + 4))), (0, .ref (ad 2)), (2, .int (nI k))] := hl
          refine lv_iinc (k := 2) (v := nI (k + 1)) hx hb d_C_usableFreePages_27 hl rfl (nI_1 _) (by decide) rfl (fun ls hl => ?_)
          have hl : lv_has ls 3 [(2, .int (nI (k + 1))), (1, .int (nI ((4 * k) + 4))), (0, .ref (ad 2))] := hl
          refine lv_goto (tgt := 4) hx hb d_C_usableFreePages_30 (by decide) ?_
          exact ih4 (k + 1) ls (by omega) (by omega) (lv_sub hl [2, 1, 0] rfl)
  exact lp4 _ 0 ls (Nat.lt_succ_self _) (by omega) (lv_sub hl [2, 1, 0] rfl)
set_option maxHeartbeats 4000000 in
set_option maxRecDepth 100000 in
theorem c_C_turnOff (l : Launch) (dC : Nat → ClassId) (dI : Nat → Nat → Nat) (ad cd : Nat → Nat) (sz : Nat) (w wr fl : Nat → Int32) (pw sc : Int32) (lw rot vb : Nat → Int32) (rec tk : Int32) (live row : Nat → Int32) (cur ser dur wo : Int32) (bts : Nat → Int32) (us : Int32) (act : Nat → Int32) (rd rs : Int32)  : Met l y_C_turnOff w_C_turnOff ({ frames := 0, cells := 0, slots := 0, locals := 0 }) (xP (dC, dI) vwCl (xt cd) (xw ad cd w wr fl pw sc lw rot vb rec tk live row cur ser dur wo bts us act rd rs) sz [.ref (ad 2)]) (va_Qv (fun (u : Unit) => True) (fun (u : Unit) (t : State) => xB (dC, dI) vwCl (xt cd) (xA 15 ad sz) (xw ad cd w wr fl (nI 0) (-1) lw rot vb rec tk live row cur ser dur wo bts us act rd rs) t) (xA 15 ad sz)) 0 0 (xA 15 ad sz) := by
  refine Met.ofW (cc := b_C_turnOff) (maxL := 1) (ret := none) (by decide) rfl ?_
  intro P e s m args below meth c0 s₁ B hml hv
  obtain ⟨rfl, hsz, hP, hK, hD0⟩ := hv
  have hx := B.exec
  have hb := B.bytes
  have hr := B.returns
  have hts := atoms_spec (ws := w_C_turnOff) B.pre
  have hown : s.vm.findClass R_C = some m.cls := findClass_of_methodNamed B.named
  have hlocks := B.notSynchronized
  subst hsz
  have hD := xw_D (sz := s.heap.size) hD0
  have hS : va_S (xA 15 ad s.heap.size) s.heap s.heap [] := va_S.rf
  have hl := lv_entry ([.ref (ad 2)]) (n := 1) (Nat.le_of_ble_eq_true rfl)
  rw [lg_entry_eq]
  generalize (lg_sl ([.ref (ad 2)]) ++ List.replicate (1 - (lg_sl ([.ref (ad 2)])).length) Slot.unset).toArray = ls at hl ⊢
  have hl : lv_has ls 1 [(0, .ref (ad 2))] := hl
  refine lv_aload_n hx hb d_C_turnOff_0 rfl (lv_at hl 0 rfl) ?_
  refine lv_iconst (v := nI 0) hx hb d_C_turnOff_1 (by decide) ?_
  refine va_put (D := (dC, dI)) (ci := 0) (v := .int (nI 0)) (ty := .boolean) (C := R_C) (T := F_C) (N := 5) hx hb hts (fun w h => List.mem_cons_of_mem _ (in_C w h)) t_C ok_C nm_C hown hK hP hD hS 2 rfl rfl 3 (by decide) (hts (.fieldLink R_C 22 R_C "powered" "Z") (List.mem_cons_of_mem _ t_37)) (fun _ h9 => h9) rfl (by decide +kernel) (by first | rfl | decide | assumption) rfl (Nat.le_of_ble_eq_true rfl) d_C_turnOff_2 (fun H locs hP hD hS => ?_)
  have hP : va_P (dC, dI) vwCl (xw ad cd w wr fl (nI 0) sc lw rot vb rec tk live row cur ser dur wo bts us act rd rs) H := hP
  have hD : va_D (xA 15 ad s.heap.size) (xw ad cd w wr fl (nI 0) sc lw rot vb rec tk live row cur ser dur wo bts us act rd rs) := hD
  refine lv_aload_n hx hb d_C_turnOff_5 rfl (lv_at hl 0 rfl) ?_
  refine lv_iconst (v := (-1)) hx hb d_C_turnOff_6 (by decide) ?_
  refine va_put (D := (dC, dI)) (ci := 0) (v := .int (-1)) (ty := .int) (C := R_C) (T := F_C) (N := 5) hx hb hts (fun w h => List.mem_cons_of_mem _ (in_C w h)) t_C ok_C nm_C hown hK hP hD hS 2 rfl rfl 4 (by decide) (hts (.fieldLink R_C 26 R_C "stepsToCut" "I") (List.mem_cons_of_mem _ t_38)) (fun _ h9 => h9) rfl (by decide +kernel) rfl rfl (Nat.le_of_ble_eq_true rfl) d_C_turnOff_7 (fun H locs hP hD hS => ?_)
  have hP : va_P (dC, dI) vwCl (xw ad cd w wr fl (nI 0) (-1) lw rot vb rec tk live row cur ser dur wo bts us act rd rs) H := hP
  have hD : va_D (xA 15 ad s.heap.size) (xw ad cd w wr fl (nI 0) (-1) lw rot vb rec tk live row cur ser dur wo bts us act rd rs) := hD
  exact W.vret hx hb hr (fun t ht hW => ⟨⟨(), rfl, by first | rfl | trivial | omega, ⟨by rw [ht]; exact hP, va_K.moved hW.alike hK, hD⟩⟩, hS.F ht⟩) hS.2.2 d_C_turnOff_10
set_option maxHeartbeats 4000000 in
set_option maxRecDepth 100000 in
theorem c_C_turnOn (l : Launch) (dC : Nat → ClassId) (dI : Nat → Nat → Nat) (ad cd : Nat → Nat) (sz : Nat) (w wr fl : Nat → Int32) (pw sc : Int32) (lw rot vb : Nat → Int32) (rec tk : Int32) (live row : Nat → Int32) (cur ser dur wo : Int32) (bts : Nat → Int32) (us : Int32) (act : Nat → Int32) (rd rs : Int32)  : Met l y_C_turnOn w_C_turnOn ({ frames := 0, cells := 0, slots := 0, locals := 0 }) (xP (dC, dI) vwCl (xt cd) (xw ad cd w wr fl pw sc lw rot vb rec tk live row cur ser dur wo bts us act rd rs) sz [.ref (ad 2)]) (va_Qv (fun (u : Unit) => True) (fun (u : Unit) (t : State) => xB (dC, dI) vwCl (xt cd) (xA 15 ad sz) (xw ad cd w wr fl (nI 1) sc lw rot vb rec tk live row cur ser dur wo bts us act rd rs) t) (xA 15 ad sz)) 0 0 (xA 15 ad sz) := by
  refine Met.ofW (cc := b_C_turnOn) (maxL := 1) (ret := none) (by decide) rfl ?_
  intro P e s m args below meth c0 s₁ B hml hv
  obtain ⟨rfl, hsz, hP, hK, hD0⟩ := hv
  have hx := B.exec
  have hb := B.bytes
  have hr := B.returns
  have hts := atoms_spec (ws := w_C_turnOn) B.pre
  have hown : s.vm.findClass R_C = some m.cls := findClass_of_methodNamed B.named
  have hlocks := B.notSynchronized
  subst hsz
  have hD := xw_D (sz := s.heap.size) hD0
  have hS : va_S (xA 15 ad s.heap.size) s.heap s.heap [] := va_S.rf
  have hl := lv_entry ([.ref (ad 2)]) (n := 1) (Nat.le_of_ble_eq_true rfl)
  rw [lg_entry_eq]
  generalize (lg_sl ([.ref (ad 2)]) ++ List.replicate (1 - (lg_sl ([.ref (ad 2)])).length) Slot.unset).toArray = ls at hl ⊢
  have hl : lv_has ls 1 [(0, .ref (ad 2))] := hl
  refine lv_aload_n hx hb d_C_turnOn_0 rfl (lv_at hl 0 rfl) ?_
  refine lv_iconst (v := nI 1) hx hb d_C_turnOn_1 (by decide) ?_
  refine va_put (D := (dC, dI)) (ci := 0) (v := .int (nI 1)) (ty := .boolean) (C := R_C) (T := F_C) (N := 5) hx hb hts (fun w h => List.mem_cons_of_mem _ (in_C w h)) t_C ok_C nm_C hown hK hP hD hS 2 rfl rfl 3 (by decide) (hts (.fieldLink R_C 22 R_C "powered" "Z") (List.mem_cons_of_mem _ t_37)) (fun _ h9 => h9) rfl (by decide +kernel) (by first | rfl | decide | assumption) rfl (Nat.le_of_ble_eq_true rfl) d_C_turnOn_2 (fun H locs hP hD hS => ?_)
  have hP : va_P (dC, dI) vwCl (xw ad cd w wr fl (nI 1) sc lw rot vb rec tk live row cur ser dur wo bts us act rd rs) H := hP
  have hD : va_D (xA 15 ad s.heap.size) (xw ad cd w wr fl (nI 1) sc lw rot vb rec tk live row cur ser dur wo bts us act rd rs) := hD
  exact W.vret hx hb hr (fun t ht hW => ⟨⟨(), rfl, by first | rfl | trivial | omega, ⟨by rw [ht]; exact hP, va_K.moved hW.alike hK, hD⟩⟩, hS.F ht⟩) hS.2.2 d_C_turnOn_5
set_option maxHeartbeats 4000000 in
set_option maxRecDepth 100000 in
theorem c_C_tellCut (l : Launch) (dC : Nat → ClassId) (dI : Nat → Nat → Nat) (ad cd : Nat → Nat) (sz : Nat) (w wr fl : Nat → Int32) (pw sc : Int32) (lw rot vb : Nat → Int32) (rec tk : Int32) (live row : Nat → Int32) (cur ser dur wo : Int32) (bts : Nat → Int32) (us : Int32) (act : Nat → Int32) (rd rs : Int32) (n : Int32) : Met l y_C_tellCut w_C_tellCut ({ frames := 0, cells := 0, slots := 0, locals := 0 }) (xP (dC, dI) vwCl (xt cd) (xw ad cd w wr fl pw sc lw rot vb rec tk live row cur ser dur wo bts us act rd rs) sz [.ref (ad 2), .int n]) (va_Qv (fun (u : Unit) => True) (fun (u : Unit) (t : State) => xB (dC, dI) vwCl (xt cd) (xA 15 ad sz) (xw ad cd w wr fl pw n lw rot vb rec tk live row cur ser dur wo bts us act rd rs) t) (xA 15 ad sz)) 0 0 (xA 15 ad sz) := by
  refine Met.ofW (cc := b_C_tellCut) (maxL := 2) (ret := none) (by decide) rfl ?_
  intro P e s m args below meth c0 s₁ B hml hv
  obtain ⟨rfl, hsz, hP, hK, hD0⟩ := hv
  have hx := B.exec
  have hb := B.bytes
  have hr := B.returns
  have hts := atoms_spec (ws := w_C_tellCut) B.pre
  have hown : s.vm.findClass R_C = some m.cls := findClass_of_methodNamed B.named
  have hlocks := B.notSynchronized
  subst hsz
  have hD := xw_D (sz := s.heap.size) hD0
  have hS : va_S (xA 15 ad s.heap.size) s.heap s.heap [] := va_S.rf
  have hl := lv_entry ([.ref (ad 2), .int n]) (n := 2) (Nat.le_of_ble_eq_true rfl)
  rw [lg_entry_eq]
  generalize (lg_sl ([.ref (ad 2), .int n]) ++ List.replicate (2 - (lg_sl ([.ref (ad 2), .int n])).length) Slot.unset).toArray = ls at hl ⊢
  have hl : lv_has ls 2 [(0, .ref (ad 2)), (1, .int n)] := hl
  refine lv_aload_n hx hb d_C_tellCut_0 rfl (lv_at hl 0 rfl) ?_
  refine lv_iload_n hx hb d_C_tellCut_1 rfl (lv_at hl 1 rfl) ?_
  refine va_put (D := (dC, dI)) (ci := 0) (v := .int n) (ty := .int) (C := R_C) (T := F_C) (N := 5) hx hb hts (fun w h => List.mem_cons_of_mem _ (in_C w h)) t_C ok_C nm_C hown hK hP hD hS 2 rfl rfl 4 (by decide) (hts (.fieldLink R_C 26 R_C "stepsToCut" "I") (List.mem_cons_of_mem _ t_38)) (fun _ h9 => h9) rfl (by decide +kernel) rfl rfl (Nat.le_of_ble_eq_true rfl) d_C_tellCut_2 (fun H locs hP hD hS => ?_)
  have hP : va_P (dC, dI) vwCl (xw ad cd w wr fl pw n lw rot vb rec tk live row cur ser dur wo bts us act rd rs) H := hP
  have hD : va_D (xA 15 ad s.heap.size) (xw ad cd w wr fl pw n lw rot vb rec tk live row cur ser dur wo bts us act rd rs) := hD
  exact W.vret hx hb hr (fun t ht hW => ⟨⟨(), rfl, by first | rfl | trivial | omega, ⟨by rw [ht]; exact hP, va_K.moved hW.alike hK, hD⟩⟩, hS.F ht⟩) hS.2.2 d_C_tellCut_5
set_option maxHeartbeats 4000000 in
set_option maxRecDepth 100000 in
theorem c_C_flip (l : Launch) (dC : Nat → ClassId) (dI : Nat → Nat → Nat) (ad cd : Nat → Nat) (sz : Nat) (w wr fl : Nat → Int32) (pw sc : Int32) (lw rot vb : Nat → Int32) (rec tk : Int32) (live row : Nat → Int32) (cur ser dur wo : Int32) (bts : Nat → Int32) (us : Int32) (act : Nat → Int32) (rd rs : Int32) (pa k : Nat) (mask : Int32) (hp : pa < 32) (hk : k < 16) : Met l y_C_flip w_C_flip ({ frames := 0, cells := 0, slots := 0, locals := 0 }) (xP (dC, dI) vwCl (xt cd) (xw ad cd w wr fl pw sc lw rot vb rec tk live row cur ser dur wo bts us act rd rs) sz [.ref (ad 2), .int (nI pa), .int (nI k), .int mask]) (va_Qv (fun (u : Unit) => True) (fun (u : Unit) (t : State) => xB (dC, dI) vwCl (xt cd) (xA 15 ad sz) (xw ad cd (upd w (pa * 16 + k) (w (pa * 16 + k) ^^^ mask)) wr fl pw sc lw rot vb rec tk live row cur ser dur wo bts us act rd rs) t) (xA 15 ad sz)) 0 0 (xA 15 ad sz) := by
  refine Met.ofW (cc := b_C_flip) (maxL := 4) (ret := none) (by decide) rfl ?_
  intro P e s m args below meth c0 s₁ B hml hv
  obtain ⟨rfl, hsz, hP, hK, hD0⟩ := hv
  have hx := B.exec
  have hb := B.bytes
  have hr := B.returns
  have hts := atoms_spec (ws := w_C_flip) B.pre
  have hown : s.vm.findClass R_C = some m.cls := findClass_of_methodNamed B.named
  have hlocks := B.notSynchronized
  subst hsz
  have hD := xw_D (sz := s.heap.size) hD0
  have hS : va_S (xA 15 ad s.heap.size) s.heap s.heap [] := va_S.rf
  have hl := lv_entry ([.ref (ad 2), .int (nI pa), .int (nI k), .int mask]) (n := 4) (Nat.le_of_ble_eq_true rfl)
  rw [lg_entry_eq]
  generalize (lg_sl ([.ref (ad 2), .int (nI pa), .int (nI k), .int mask]) ++ List.replicate (4 - (lg_sl ([.ref (ad 2), .int (nI pa), .int (nI k), .int mask])).length) Slot.unset).toArray = ls at hl ⊢
  have hl : lv_has ls 4 [(0, .ref (ad 2)), (1, .int (nI pa)), (2, .int (nI k)), (3, .int mask)] := hl
  refine lv_aload_n hx hb d_C_flip_0 rfl (lv_at hl 0 rfl) ?_
  refine va_get (D := (dC, dI)) (ci := 0) (v := .ref (ad 8)) (C := R_C) (T := F_C) (N := 5) hx hb hts (fun w h => List.mem_cons_of_mem _ (in_C w h)) hown hK hP 2 rfl rfl 0 (by decide) (hts (.fieldLink R_C 9 R_C "words" "[I") (List.mem_cons_of_mem _ t_34)) (fun _ h9 => h9) rfl d_C_flip_1 ?_
  refine lv_iload_n hx hb d_C_flip_4 rfl (lv_at hl 1 rfl) ?_
  refine lv_bipush (v := nI 16) hx hb d_C_flip_5 (by decide) ?_
  refine lv_imul hx hb d_C_flip_7 ?_
  refine tp_i (y := nI (pa * 16)) (pk_mul _ _) ?_
  refine lv_iload_n hx hb d_C_flip_8 rfl (lv_at hl 2 rfl) ?_
  refine lv_iadd hx hb d_C_flip_9 ?_
  refine tp_i (y := nI ((pa * 16) + k)) (nI_add _ _) ?_
  refine lv_dup2_11 hx hb d_C_flip_10 rfl rfl ?_
  refine va_iald hx hb hK hP 8 3 rfl rfl (vp_in_nI (by omega) (by decide)) d_C_flip_11 ?_
  refine tp_i (y := w ((pa * 16) + k)) (by rw [nI_clamp (by omega)]) ?_
  refine lv_iload_n hx hb d_C_flip_12 rfl (lv_at hl 3 rfl) ?_
  refine lv_ixor hx hb d_C_flip_13 ?_
  refine va_iast hx hb hK hP hD hS 8 3 rfl rfl (vp_in_nI (by omega) (by decide)) d_C_flip_14 (fun H locs hP hD hS => ?_)
  rw [nI_clamp (by omega)] at hP hD
  have hP : va_P (dC, dI) vwCl (xw ad cd (upd w ((pa * 16) + k) ((w ((pa * 16) + k)) ^^^ mask)) wr fl pw sc lw rot vb rec tk live row cur ser dur wo bts us act rd rs) H := hP
  have hD : va_D (xA 15 ad s.heap.size) (xw ad cd (upd w ((pa * 16) + k) ((w ((pa * 16) + k)) ^^^ mask)) wr fl pw sc lw rot vb rec tk live row cur ser dur wo bts us act rd rs) := hD
  exact W.vret hx hb hr (fun t ht hW => ⟨⟨(), rfl, by first | rfl | trivial | omega, ⟨by rw [ht]; exact hP, va_K.moved hW.alike hK, hD⟩⟩, hS.F ht⟩) hS.2.2 d_C_flip_15
set_option maxHeartbeats 4000000 in
set_option maxRecDepth 100000 in
theorem c_C_markFailed (l : Launch) (dC : Nat → ClassId) (dI : Nat → Nat → Nat) (ad cd : Nat → Nat) (sz : Nat) (w wr fl : Nat → Int32) (pw sc : Int32) (lw rot vb : Nat → Int32) (rec tk : Int32) (live row : Nat → Int32) (cur ser dur wo : Int32) (bts : Nat → Int32) (us : Int32) (act : Nat → Int32) (rd rs : Int32) (b : Nat) (hp : b < 8) : Met l y_C_markFailed w_C_markFailed ({ frames := 0, cells := 0, slots := 0, locals := 0 }) (xP (dC, dI) vwCl (xt cd) (xw ad cd w wr fl pw sc lw rot vb rec tk live row cur ser dur wo bts us act rd rs) sz [.ref (ad 2), .int (nI b)]) (va_Qv (fun (u : Unit) => True) (fun (u : Unit) (t : State) => xB (dC, dI) vwCl (xt cd) (xA 15 ad sz) (xw ad cd w wr (upd fl b (vp_nar .boolean (nI 1))) pw sc lw rot vb rec tk live row cur ser dur wo bts us act rd rs) t) (xA 15 ad sz)) 0 0 (xA 15 ad sz) := by
  refine Met.ofW (cc := b_C_markFailed) (maxL := 2) (ret := none) (by decide) rfl ?_
  intro P e s m args below meth c0 s₁ B hml hv
  obtain ⟨rfl, hsz, hP, hK, hD0⟩ := hv
  have hx := B.exec
  have hb := B.bytes
  have hr := B.returns
  have hts := atoms_spec (ws := w_C_markFailed) B.pre
  have hown : s.vm.findClass R_C = some m.cls := findClass_of_methodNamed B.named
  have hlocks := B.notSynchronized
  subst hsz
  have hD := xw_D (sz := s.heap.size) hD0
  have hS : va_S (xA 15 ad s.heap.size) s.heap s.heap [] := va_S.rf
  have hl := lv_entry ([.ref (ad 2), .int (nI b)]) (n := 2) (Nat.le_of_ble_eq_true rfl)
  rw [lg_entry_eq]
  generalize (lg_sl ([.ref (ad 2), .int (nI b)]) ++ List.replicate (2 - (lg_sl ([.ref (ad 2), .int (nI b)])).length) Slot.unset).toArray = ls at hl ⊢
  have hl : lv_has ls 2 [(0, .ref (ad 2)), (1, .int (nI b))] := hl
  refine lv_aload_n hx hb d_C_markFailed_0 rfl (lv_at hl 0 rfl) ?_
  refine va_get (D := (dC, dI)) (ci := 0) (v := .ref (ad 10)) (C := R_C) (T := F_C) (N := 5) hx hb hts (fun w h => List.mem_cons_of_mem _ (in_C w h)) hown hK hP 2 rfl rfl 2 (by decide) (hts (.fieldLink R_C 18 R_C "failed" "[Z") (List.mem_cons_of_mem _ t_36)) (fun _ h9 => h9) rfl d_C_markFailed_1 ?_
  refine lv_iload_n hx hb d_C_markFailed_4 rfl (lv_at hl 1 rfl) ?_
  refine lv_iconst (v := nI 1) hx hb d_C_markFailed_5 (by decide) ?_
  refine va_zast hx hb hK hP hD hS 10 5 rfl rfl (vp_in_nI (by omega) (by decide)) d_C_markFailed_6 (fun H locs hP hD hS => ?_)
  rw [nI_clamp (by omega)] at hP hD
  have hP : va_P (dC, dI) vwCl (xw ad cd w wr (upd fl b (vp_nar .boolean (nI 1))) pw sc lw rot vb rec tk live row cur ser dur wo bts us act rd rs) H := hP
  have hD : va_D (xA 15 ad s.heap.size) (xw ad cd w wr (upd fl b (vp_nar .boolean (nI 1))) pw sc lw rot vb rec tk live row cur ser dur wo bts us act rd rs) := hD
  exact W.vret hx hb hr (fun t ht hW => ⟨⟨(), rfl, by first | rfl | trivial | omega, ⟨by rw [ht]; exact hP, va_K.moved hW.alike hK, hD⟩⟩, hS.F ht⟩) hS.2.2 d_C_markFailed_7
end
section
set_option maxHeartbeats 4000000 in
set_option maxRecDepth 100000 in
theorem c_G_recordCount (l : Launch) (dC : Nat → ClassId) (dI : Nat → Nat → Nat) (ad cd : Nat → Nat) (w wr fl : Nat → Int32) (pw sc : Int32) (lw rot vb : Nat → Int32) (rec tk : Int32) (live row : Nat → Int32) (cur ser dur wo : Int32) (bts : Nat → Int32) (us : Int32) (act : Nat → Int32) (rd rs : Int32)  : Met l y_G_recordCount w_G_recordCount ({ frames := 0, cells := 0, slots := 0, locals := 0 }) (xR (dC, dI) vwCl (xt cd) (xw ad cd w wr fl pw sc lw rot vb rec tk live row cur ser dur wo bts us act rd rs) [.ref (ad 3)]) (vp_Si (fun r => r = rec)) 0 0 (fun _ => False) := by
  refine Met.ofW (cc := b_G_recordCount) (maxL := 1) (ret := (some (.int))) (by decide) rfl ?_
  intro P e s m args below meth c0 s₁ B hml hv
  obtain ⟨rfl, hP, hK⟩ := hv
  have hx := B.exec
  have hb := B.bytes
  have hr := B.returns
  have hts := atoms_spec (ws := w_G_recordCount) B.pre
  have hown : s.vm.findClass R_G = some m.cls := findClass_of_methodNamed B.named
  have hlocks := B.notSynchronized
  have hl := lv_entry ([.ref (ad 3)]) (n := 1) (Nat.le_of_ble_eq_true rfl)
  rw [lg_entry_eq]
  generalize (lg_sl ([.ref (ad 3)]) ++ List.replicate (1 - (lg_sl ([.ref (ad 3)])).length) Slot.unset).toArray = ls at hl ⊢
  have hl : lv_has ls 1 [(0, .ref (ad 3))] := hl
  refine lv_aload_n hx hb d_G_recordCount_0 rfl (lv_at hl 0 rfl) ?_
  refine va_get (D := (dC, dI)) (ci := 2) (v := .int rec) (C := R_G) (T := F_G) (N := 5) hx hb hts (fun w h => List.mem_cons_of_mem _ (in_G w h)) hown hK hP 3 rfl rfl 3 (by decide) (hts (.fieldLink R_G 21 R_G "records" "I") (List.mem_cons_of_mem _ t_87)) (fun _ h9 => h9) rfl d_G_recordCount_1 ?_
  exact W.iret (v := rec) hx hb hr (fun t ht hW => ⟨rec, rfl, by first | rfl | trivial | omega, ht⟩) (fun q hq => by cases hq) d_G_recordCount_4
set_option maxHeartbeats 4000000 in
set_option maxRecDepth 100000 in
theorem c_G_ticketCount (l : Launch) (dC : Nat → ClassId) (dI : Nat → Nat → Nat) (ad cd : Nat → Nat) (w wr fl : Nat → Int32) (pw sc : Int32) (lw rot vb : Nat → Int32) (rec tk : Int32) (live row : Nat → Int32) (cur ser dur wo : Int32) (bts : Nat → Int32) (us : Int32) (act : Nat → Int32) (rd rs : Int32)  : Met l y_G_ticketCount w_G_ticketCount ({ frames := 0, cells := 0, slots := 0, locals := 0 }) (xR (dC, dI) vwCl (xt cd) (xw ad cd w wr fl pw sc lw rot vb rec tk live row cur ser dur wo bts us act rd rs) [.ref (ad 3)]) (vp_Si (fun r => r = tk)) 0 0 (fun _ => False) := by
  refine Met.ofW (cc := b_G_ticketCount) (maxL := 1) (ret := (some (.int))) (by decide) rfl ?_
  intro P e s m args below meth c0 s₁ B hml hv
  obtain ⟨rfl, hP, hK⟩ := hv
  have hx := B.exec
  have hb := B.bytes
  have hr := B.returns
  have hts := atoms_spec (ws := w_G_ticketCount) B.pre
  have hown : s.vm.findClass R_G = some m.cls := findClass_of_methodNamed B.named
  have hlocks := B.notSynchronized
  have hl := lv_entry ([.ref (ad 3)]) (n := 1) (Nat.le_of_ble_eq_true rfl)
  rw [lg_entry_eq]
  generalize (lg_sl ([.ref (ad 3)]) ++ List.replicate (1 - (lg_sl ([.ref (ad 3)])).length) Slot.unset).toArray = ls at hl ⊢
  have hl : lv_has ls 1 [(0, .ref (ad 3))] := hl
  refine lv_aload_n hx hb d_G_ticketCount_0 rfl (lv_at hl 0 rfl) ?_
  refine va_get (D := (dC, dI)) (ci := 2) (v := .int tk) (C := R_G) (T := F_G) (N := 5) hx hb hts (fun w h => List.mem_cons_of_mem _ (in_G w h)) hown hK hP 3 rfl rfl 4 (by decide) (hts (.fieldLink R_G 25 R_G "tickets" "I") (List.mem_cons_of_mem _ t_88)) (fun _ h9 => h9) rfl d_G_ticketCount_1 ?_
  exact W.iret (v := tk) hx hb hr (fun t ht hW => ⟨tk, rfl, by first | rfl | trivial | omega, ht⟩) (fun q hq => by cases hq) d_G_ticketCount_4
set_option maxHeartbeats 4000000 in
set_option maxRecDepth 100000 in
theorem c_G_hasTicket (l : Launch) (dC : Nat → ClassId) (dI : Nat → Nat → Nat) (ad cd : Nat → Nat) (w wr fl : Nat → Int32) (pw sc : Int32) (lw rot vb : Nat → Int32) (rec tk : Int32) (live row : Nat → Int32) (cur ser dur wo : Int32) (bts : Nat → Int32) (us : Int32) (act : Nat → Int32) (rd rs : Int32) (n : Int32) : Met l y_G_hasTicket w_G_hasTicket ({ frames := 0, cells := 0, slots := 0, locals := 0 }) (xR (dC, dI) vwCl (xt cd) (xw ad cd w wr fl pw sc lw rot vb rec tk live row cur ser dur wo bts us act rd rs) [.ref (ad 3), .int n]) (vp_Si (fun r => (r = 1 ∧ (1 ≤ n ∧ n ≤ tk)) ∨ (r = 0 ∧ ¬ (1 ≤ n ∧ n ≤ tk)))) 0 0 (fun _ => False) := by
  refine Met.ofW (cc := b_G_hasTicket) (maxL := 2) (ret := (some (.boolean))) (by decide) rfl ?_
  intro P e s m args below meth c0 s₁ B hml hv
  obtain ⟨rfl, hP, hK⟩ := hv
  have hx := B.exec
  have hb := B.bytes
  have hr := B.returns
  have hts := atoms_spec (ws := w_G_hasTicket) B.pre
  have hown : s.vm.findClass R_G = some m.cls := findClass_of_methodNamed B.named
  have hlocks := B.notSynchronized
  have hl := lv_entry ([.ref (ad 3), .int n]) (n := 2) (Nat.le_of_ble_eq_true rfl)
  rw [lg_entry_eq]
  generalize (lg_sl ([.ref (ad 3), .int n]) ++ List.replicate (2 - (lg_sl ([.ref (ad 3), .int n])).length) Slot.unset).toArray = ls at hl ⊢
  have hl : lv_has ls 2 [(0, .ref (ad 3)), (1, .int n)] := hl
  refine lv_iload_n hx hb d_G_hasTicket_0 rfl (lv_at hl 1 rfl) ?_
  refine lv_iconst (v := 1) hx hb d_G_hasTicket_1 (by decide) ?_
  refine lv_icmp_lt (tgt := 17) hx hb d_G_hasTicket_2 (by decide) (fun c2 => ?_) (fun c2 => ?_)
  ·
    refine lv_iconst (v := 0) hx hb d_G_hasTicket_17 (by decide) ?_
    exact W.zret (v := 0) hx hb hr (by first | rfl | decide | assumption) (fun t ht hW => ⟨0, rfl, Or.inr ⟨rfl, fun z => by first | exact absurd z.1 (Int32.not_le.mpr c2) | exact absurd z.2 (Int32.not_le.mpr c10)⟩, ht⟩) (fun q hq => by cases hq) d_G_hasTicket_18
  ·
    refine lv_iload_n hx hb d_G_hasTicket_5 rfl (lv_at hl 1 rfl) ?_
    refine lv_aload_n hx hb d_G_hasTicket_6 rfl (lv_at hl 0 rfl) ?_
    refine va_get (D := (dC, dI)) (ci := 2) (v := .int tk) (C := R_G) (T := F_G) (N := 5) hx hb hts (fun w h => List.mem_cons_of_mem _ (in_G w h)) hown hK hP 3 rfl rfl 4 (by decide) (hts (.fieldLink R_G 25 R_G "tickets" "I") (List.mem_cons_of_mem _ t_88)) (fun _ h9 => h9) rfl d_G_hasTicket_7 ?_
    refine lv_icmp_gt (tgt := 17) hx hb d_G_hasTicket_10 (by decide) (fun c10 => ?_) (fun c10 => ?_)
    ·
      refine lv_iconst (v := 0) hx hb d_G_hasTicket_17 (by decide) ?_
      exact W.zret (v := 0) hx hb hr (by first | rfl | decide | assumption) (fun t ht hW => ⟨0, rfl, Or.inr ⟨rfl, fun z => by first | exact absurd z.1 (Int32.not_le.mpr c2) | exact absurd z.2 (Int32.not_le.mpr c10)⟩, ht⟩) (fun q hq => by cases hq) d_G_hasTicket_18
    ·
      refine lv_iconst (v := 1) hx hb d_G_hasTicket_13 (by decide) ?_
      refine lv_goto (tgt := 18) hx hb d_G_hasTicket_14 (by decide) ?_
      exact W.zret (v := 1) hx hb hr (by first | rfl | decide | assumption) (fun t ht hW => ⟨1, rfl, Or.inl ⟨rfl, Int32.not_lt.mp c2, Int32.not_lt.mp c10⟩, ht⟩) (fun q hq => by cases hq) d_G_hasTicket_18
set_option maxHeartbeats 4000000 in
set_option maxRecDepth 100000 in
theorem c_G_empty (l : Launch) (dC : Nat → ClassId) (dI : Nat → Nat → Nat) (ad cd : Nat → Nat) (sz : Nat) (w wr fl : Nat → Int32) (pw sc : Int32) (lw rot vb : Nat → Int32) (rec tk : Int32) (live row : Nat → Int32) (cur ser dur wo : Int32) (bts : Nat → Int32) (us : Int32) (act : Nat → Int32) (rd rs : Int32)  : Met l y_G_empty w_G_empty ({ frames := 0, cells := 0, slots := 0, locals := 0 }) (xP (dC, dI) vwCl (xt cd) (xw ad cd w wr fl pw sc lw rot vb rec tk live row cur ser dur wo bts us act rd rs) sz [.ref (ad 3)]) (va_Qv (fun (u : Unit) => True) (fun (u : Unit) (t : State) => xB (dC, dI) vwCl (xt cd) (xA 15 ad sz) (xw ad cd w wr fl pw sc lw rot vb (nI 0) (nI 0) live row cur ser dur wo bts us act rd rs) t) (xA 15 ad sz)) 0 0 (xA 15 ad sz) := by
  refine Met.ofW (cc := b_G_empty) (maxL := 1) (ret := none) (by decide) rfl ?_
  intro P e s m args below meth c0 s₁ B hml hv
  obtain ⟨rfl, hsz, hP, hK, hD0⟩ := hv
  have hx := B.exec
  have hb := B.bytes
  have hr := B.returns
  have hts := atoms_spec (ws := w_G_empty) B.pre
  have hown : s.vm.findClass R_G = some m.cls := findClass_of_methodNamed B.named
  have hlocks := B.notSynchronized
  subst hsz
  have hD := xw_D (sz := s.heap.size) hD0
  have hS : va_S (xA 15 ad s.heap.size) s.heap s.heap [] := va_S.rf
  have hl := lv_entry ([.ref (ad 3)]) (n := 1) (Nat.le_of_ble_eq_true rfl)
  rw [lg_entry_eq]
  generalize (lg_sl ([.ref (ad 3)]) ++ List.replicate (1 - (lg_sl ([.ref (ad 3)])).length) Slot.unset).toArray = ls at hl ⊢
  have hl : lv_has ls 1 [(0, .ref (ad 3))] := hl
  refine lv_aload_n hx hb d_G_empty_0 rfl (lv_at hl 0 rfl) ?_
  refine lv_iconst (v := nI 0) hx hb d_G_empty_1 (by decide) ?_
  refine va_put (D := (dC, dI)) (ci := 2) (v := .int (nI 0)) (ty := .int) (C := R_G) (T := F_G) (N := 5) hx hb hts (fun w h => List.mem_cons_of_mem _ (in_G w h)) t_G ok_G nm_G hown hK hP hD hS 3 rfl rfl 3 (by decide) (hts (.fieldLink R_G 21 R_G "records" "I") (List.mem_cons_of_mem _ t_87)) (fun _ h9 => h9) rfl (by decide +kernel) rfl rfl (Nat.le_of_ble_eq_true rfl) d_G_empty_2 (fun H locs hP hD hS => ?_)
  have hP : va_P (dC, dI) vwCl (xw ad cd w wr fl pw sc lw rot vb (nI 0) tk live row cur ser dur wo bts us act rd rs) H := hP
  have hD : va_D (xA 15 ad s.heap.size) (xw ad cd w wr fl pw sc lw rot vb (nI 0) tk live row cur ser dur wo bts us act rd rs) := hD
  refine lv_aload_n hx hb d_G_empty_5 rfl (lv_at hl 0 rfl) ?_
  refine lv_iconst (v := nI 0) hx hb d_G_empty_6 (by decide) ?_
  refine va_put (D := (dC, dI)) (ci := 2) (v := .int (nI 0)) (ty := .int) (C := R_G) (T := F_G) (N := 5) hx hb hts (fun w h => List.mem_cons_of_mem _ (in_G w h)) t_G ok_G nm_G hown hK hP hD hS 3 rfl rfl 4 (by decide) (hts (.fieldLink R_G 25 R_G "tickets" "I") (List.mem_cons_of_mem _ t_88)) (fun _ h9 => h9) rfl (by decide +kernel) rfl rfl (Nat.le_of_ble_eq_true rfl) d_G_empty_7 (fun H locs hP hD hS => ?_)
  have hP : va_P (dC, dI) vwCl (xw ad cd w wr fl pw sc lw rot vb (nI 0) (nI 0) live row cur ser dur wo bts us act rd rs) H := hP
  have hD : va_D (xA 15 ad s.heap.size) (xw ad cd w wr fl pw sc lw rot vb (nI 0) (nI 0) live row cur ser dur wo bts us act rd rs) := hD
  exact W.vret hx hb hr (fun t ht hW => ⟨⟨(), rfl, by first | rfl | trivial | omega, ⟨by rw [ht]; exact hP, va_K.moved hW.alike hK, hD⟩⟩, hS.F ht⟩) hS.2.2 d_G_empty_10
end
section
set_option maxHeartbeats 4000000 in
set_option maxRecDepth 100000 in
theorem c_S_durableCount (l : Launch) (dC : Nat → ClassId) (dI : Nat → Nat → Nat) (ad cd : Nat → Nat) (w wr fl : Nat → Int32) (pw sc : Int32) (lw rot vb : Nat → Int32) (rec tk : Int32) (live row : Nat → Int32) (cur ser dur wo : Int32) (bts : Nat → Int32) (us : Int32) (act : Nat → Int32) (rd rs : Int32)  : Met l y_S_durableCount w_S_durableCount ({ frames := 0, cells := 0, slots := 0, locals := 0 }) (xR (dC, dI) vwCl (xt cd) (xw ad cd w wr fl pw sc lw rot vb rec tk live row cur ser dur wo bts us act rd rs) [.ref (ad 1)]) (vp_Si (fun r => r = dur)) 0 0 (fun _ => False) := by
  refine Met.ofW (cc := b_S_durableCount) (maxL := 1) (ret := (some (.int))) (by decide) rfl ?_
  intro P e s m args below meth c0 s₁ B hml hv
  obtain ⟨rfl, hP, hK⟩ := hv
  have hx := B.exec
  have hb := B.bytes
  have hr := B.returns
  have hts := atoms_spec (ws := w_S_durableCount) B.pre
  have hown : s.vm.findClass R_S = some m.cls := findClass_of_methodNamed B.named
  have hlocks := B.notSynchronized
  have hl := lv_entry ([.ref (ad 1)]) (n := 1) (Nat.le_of_ble_eq_true rfl)
  rw [lg_entry_eq]
  generalize (lg_sl ([.ref (ad 1)]) ++ List.replicate (1 - (lg_sl ([.ref (ad 1)])).length) Slot.unset).toArray = ls at hl ⊢
  have hl : lv_has ls 1 [(0, .ref (ad 1))] := hl
  refine lv_aload_n hx hb d_S_durableCount_0 rfl (lv_at hl 0 rfl) ?_
  refine va_get (D := (dC, dI)) (ci := 3) (v := .int dur) (C := R_S) (T := F_S) (N := 7) hx hb hts (fun w h => List.mem_cons_of_mem _ (in_S w h)) hown hK hP 1 rfl rfl 5 (by decide) (hts (.fieldLink R_S 32 R_S "durable" "I") (List.mem_cons_of_mem _ t_57)) (fun _ h9 => h9) rfl d_S_durableCount_1 ?_
  exact W.iret (v := dur) hx hb hr (fun t ht hW => ⟨dur, rfl, by first | rfl | trivial | omega, ht⟩) (fun q hq => by cases hq) d_S_durableCount_4
set_option maxHeartbeats 4000000 in
set_option maxRecDepth 100000 in
theorem c_S_latestSerial (l : Launch) (dC : Nat → ClassId) (dI : Nat → Nat → Nat) (ad cd : Nat → Nat) (w wr fl : Nat → Int32) (pw sc : Int32) (lw rot vb : Nat → Int32) (rec tk : Int32) (live row : Nat → Int32) (cur ser dur wo : Int32) (bts : Nat → Int32) (us : Int32) (act : Nat → Int32) (rd rs : Int32)  : Met l y_S_latestSerial w_S_latestSerial ({ frames := 0, cells := 0, slots := 0, locals := 0 }) (xR (dC, dI) vwCl (xt cd) (xw ad cd w wr fl pw sc lw rot vb rec tk live row cur ser dur wo bts us act rd rs) [.ref (ad 1)]) (vp_Si (fun r => r = ser)) 0 0 (fun _ => False) := by
  refine Met.ofW (cc := b_S_latestSerial) (maxL := 1) (ret := (some (.int))) (by decide) rfl ?_
  intro P e s m args below meth c0 s₁ B hml hv
  obtain ⟨rfl, hP, hK⟩ := hv
  have hx := B.exec
  have hb := B.bytes
  have hr := B.returns
  have hts := atoms_spec (ws := w_S_latestSerial) B.pre
  have hown : s.vm.findClass R_S = some m.cls := findClass_of_methodNamed B.named
  have hlocks := B.notSynchronized
  have hl := lv_entry ([.ref (ad 1)]) (n := 1) (Nat.le_of_ble_eq_true rfl)
  rw [lg_entry_eq]
  generalize (lg_sl ([.ref (ad 1)]) ++ List.replicate (1 - (lg_sl ([.ref (ad 1)])).length) Slot.unset).toArray = ls at hl ⊢
  have hl : lv_has ls 1 [(0, .ref (ad 1))] := hl
  refine lv_aload_n hx hb d_S_latestSerial_0 rfl (lv_at hl 0 rfl) ?_
  refine va_get (D := (dC, dI)) (ci := 3) (v := .int ser) (C := R_S) (T := F_S) (N := 7) hx hb hts (fun w h => List.mem_cons_of_mem _ (in_S w h)) hown hK hP 1 rfl rfl 4 (by decide) (hts (.fieldLink R_S 29 R_S "serial" "I") (List.mem_cons_of_mem _ t_56)) (fun _ h9 => h9) rfl d_S_latestSerial_1 ?_
  exact W.iret (v := ser) hx hb hr (fun t ht hW => ⟨ser, rfl, by first | rfl | trivial | omega, ht⟩) (fun q hq => by cases hq) d_S_latestSerial_4
set_option maxHeartbeats 4000000 in
set_option maxRecDepth 100000 in
theorem c_S_cursorBlock (l : Launch) (dC : Nat → ClassId) (dI : Nat → Nat → Nat) (ad cd : Nat → Nat) (w wr fl : Nat → Int32) (pw sc : Int32) (lw rot vb : Nat → Int32) (rec tk : Int32) (live row : Nat → Int32) (cur ser dur wo : Int32) (bts : Nat → Int32) (us : Int32) (act : Nat → Int32) (rd rs : Int32)  : Met l y_S_cursorBlock w_S_cursorBlock ({ frames := 0, cells := 0, slots := 0, locals := 0 }) (xR (dC, dI) vwCl (xt cd) (xw ad cd w wr fl pw sc lw rot vb rec tk live row cur ser dur wo bts us act rd rs) [.ref (ad 1)]) (vp_Si (fun r => r = cur)) 0 0 (fun _ => False) := by
  refine Met.ofW (cc := b_S_cursorBlock) (maxL := 1) (ret := (some (.int))) (by decide) rfl ?_
  intro P e s m args below meth c0 s₁ B hml hv
  obtain ⟨rfl, hP, hK⟩ := hv
  have hx := B.exec
  have hb := B.bytes
  have hr := B.returns
  have hts := atoms_spec (ws := w_S_cursorBlock) B.pre
  have hown : s.vm.findClass R_S = some m.cls := findClass_of_methodNamed B.named
  have hlocks := B.notSynchronized
  have hl := lv_entry ([.ref (ad 1)]) (n := 1) (Nat.le_of_ble_eq_true rfl)
  rw [lg_entry_eq]
  generalize (lg_sl ([.ref (ad 1)]) ++ List.replicate (1 - (lg_sl ([.ref (ad 1)])).length) Slot.unset).toArray = ls at hl ⊢
  have hl : lv_has ls 1 [(0, .ref (ad 1))] := hl
  refine lv_aload_n hx hb d_S_cursorBlock_0 rfl (lv_at hl 0 rfl) ?_
  refine va_get (D := (dC, dI)) (ci := 3) (v := .int cur) (C := R_S) (T := F_S) (N := 7) hx hb hts (fun w h => List.mem_cons_of_mem _ (in_S w h)) hown hK hP 1 rfl rfl 3 (by decide) (hts (.fieldLink R_S 25 R_S "cursor" "I") (List.mem_cons_of_mem _ t_55)) (fun _ h9 => h9) rfl d_S_cursorBlock_1 ?_
  exact W.iret (v := cur) hx hb hr (fun t ht hW => ⟨cur, rfl, by first | rfl | trivial | omega, ht⟩) (fun q hq => by cases hq) d_S_cursorBlock_4
set_option maxHeartbeats 4000000 in
set_option maxRecDepth 100000 in
theorem c_S_isLive_f (l : Launch) (dC : Nat → ClassId) (dI : Nat → Nat → Nat) (ad cd : Nat → Nat) (w wr fl : Nat → Int32) (pw sc : Int32) (lw rot vb : Nat → Int32) (rec tk : Int32) (live row : Nat → Int32) (cur ser dur wo : Int32) (bts : Nat → Int32) (us : Int32) (act : Nat → Int32) (rd rs : Int32) (pa : Nat) (hp : pa < 32) (hlv : ∀ i, i < 16 → live i = -1) : Met l y_S_isLive w_S_isLive ({ frames := 0, cells := 0, slots := 0, locals := 0 }) (xR (dC, dI) vwCl (xt cd) (xw ad cd w wr fl pw sc lw rot vb rec tk live row cur ser dur wo bts us act rd rs) [.ref (ad 1), .int (nI pa)]) (vp_Si (fun r => r = 0)) 0 0 (fun _ => False) := by
  refine Met.ofW (cc := b_S_isLive) (maxL := 3) (ret := (some (.boolean))) (by decide) rfl ?_
  intro P e s m args below meth c0 s₁ B hml hv
  obtain ⟨rfl, hP, hK⟩ := hv
  have hx := B.exec
  have hb := B.bytes
  have hr := B.returns
  have hts := atoms_spec (ws := w_S_isLive) B.pre
  have hown : s.vm.findClass R_S = some m.cls := findClass_of_methodNamed B.named
  have hlocks := B.notSynchronized
  have hl := lv_entry ([.ref (ad 1), .int (nI pa)]) (n := 3) (Nat.le_of_ble_eq_true rfl)
  rw [lg_entry_eq]
  generalize (lg_sl ([.ref (ad 1), .int (nI pa)]) ++ List.replicate (3 - (lg_sl ([.ref (ad 1), .int (nI pa)])).length) Slot.unset).toArray = ls at hl ⊢
  have hl : lv_has ls 3 [(0, .ref (ad 1)), (1, .int (nI pa))] := hl
  refine lv_iconst (v := nI 0) hx hb d_S_isLive_0 (by decide) ?_
  refine lv_istore_n hx hb d_S_isLive_1 rfl hl (by decide) rfl (fun ls hl => ?_)
  have hl : lv_has ls 3 [(2, .int (nI 0)), (0, .ref (ad 1)), (1, .int (nI pa))] := hl
  have lp2 : ∀ (n : Nat) (k : Nat) (ls : Array Slot), (16 - k) < n → (k ≤ 16) → lv_has ls 3 [(0, .ref (ad 1)), (1, .int (nI pa)), (2, .int (nI k))] → W P l e (headSpec w_S_isLive ({ frames := 0, cells := 0, slots := 0, locals := 0 })).room s m (([.ref (ad 1), .int (nI pa)] : List Value).toArray) below meth c0 s.heap [] 0 0 (MQ below (vp_Si (fun r => r = 0)) (([.ref (ad 1), .int (nI pa)] : List Value).toArray) s 0 0 (fun _ => False)) (F0 m 2 ls []) := by
    intro n
    induction n with
    | zero => intro k ls hm; intros; omega
    | succ n ih2 =>
      intro k ls hm hk hl
      refine lv_iload_n hx hb d_S_isLive_2 rfl (lv_at hl 2 rfl) ?_
      refine lv_bipush (v := nI 16) hx hb d_S_isLive_3 (by decide) ?_
      refine lv_icmp_ge (tgt := 26) hx hb d_S_isLive_5 (by decide) (fun c5 => ?_) (fun c5 => ?_)
      ·
        have c5 := cd_ge_t (by omega) (by omega) c5
        refine lv_iconst (v := 0) hx hb d_S_isLive_26 (by decide) ?_
        exact W.zret (v := 0) hx hb hr (by first | rfl | decide | assumption) (fun t ht hW => ⟨0, rfl, by first | rfl | trivial | omega, ht⟩) (fun q hq => by cases hq) d_S_isLive_27
      ·
        have c5 := cd_ge_f (by omega) (by omega) c5
        refine lv_aload_n hx hb d_S_isLive_8 rfl (lv_at hl 0 rfl) ?_
        refine va_get (D := (dC, dI)) (ci := 3) (v := .ref (ad 6)) (C := R_S) (T := F_S) (N := 7) hx hb hts (fun w h => List.mem_cons_of_mem _ (in_S w h)) hown hK hP 1 rfl rfl 1 (by decide) (hts (.fieldLink R_S 18 R_S "livePages" "[I") (List.mem_cons_of_mem _ t_53)) (fun _ h9 => h9) rfl d_S_isLive_9 ?_
        refine lv_iload_n hx hb d_S_isLive_12 rfl (lv_at hl 2 rfl) ?_
        refine va_iald hx hb hK hP 6 1 rfl rfl (vp_in_nI (by omega) (by decide)) d_S_isLive_13 ?_
        refine tp_i (y := live k) (by rw [nI_clamp (by omega)]) ?_
        refine lv_iload_n hx hb d_S_isLive_14 rfl (lv_at hl 1 rfl) ?_
        refine lv_icmp_ne (tgt := 20) hx hb d_S_isLive_15 (by decide) (fun c15 => ?_) (fun c15 => ?_)
        ·
          refine lv_iinc (k := 2) (v := nI (k + 1)) hx hb d_S_isLive_20 hl rfl (nI_1 _) (by decide) rfl (fun ls hl => ?_)
          have hl : lv_has ls 3 [(2, .int (nI (k + 1))), (0, .ref (ad 1)), (1, .int (nI pa))] := hl
          refine lv_goto (tgt := 2) hx hb d_S_isLive_23 (by decide) ?_
          exact ih2 (k + 1) ls (by omega) (by omega) (lv_sub hl [1, 2, 0] rfl)
        ·
          exact absurd ((hlv k (by omega)).symm.trans c15).symm (m1_ne (by omega))
  exact lp2 _ 0 ls (Nat.lt_succ_self _) (by omega) (lv_sub hl [1, 2, 0] rfl)
set_option maxHeartbeats 4000000 in
set_option maxRecDepth 100000 in
theorem c_S_livePageCount_f (l : Launch) (dC : Nat → ClassId) (dI : Nat → Nat → Nat) (ad cd : Nat → Nat) (w wr fl : Nat → Int32) (pw sc : Int32) (lw rot vb : Nat → Int32) (rec tk : Int32) (live row : Nat → Int32) (cur ser dur wo : Int32) (bts : Nat → Int32) (us : Int32) (act : Nat → Int32) (rd rs : Int32)  (hlv : ∀ i, i < 16 → live i = -1) : Met l y_S_livePageCount w_S_livePageCount ({ frames := 1, cells := 0, slots := 0, locals := 22 }) (xR (dC, dI) vwCl (xt cd) (xw ad cd w wr fl pw sc lw rot vb rec tk live row cur ser dur wo bts us act rd rs) [.ref (ad 1)]) (vp_Si (fun r => r = nI 0)) 0 0 (fun _ => False) := by
  refine Met.ofW (cc := b_S_livePageCount) (maxL := 3) (ret := (some (.int))) (by decide) rfl ?_
  intro P e s m args below meth c0 s₁ B hml hv
  obtain ⟨rfl, hP, hK⟩ := hv
  have hx := B.exec
  have hb := B.bytes
  have hr := B.returns
  have hts := atoms_spec (ws := w_S_livePageCount) B.pre
  have hown : s.vm.findClass R_S = some m.cls := findClass_of_methodNamed B.named
  have hlocks := B.notSynchronized
  have hl := lv_entry ([.ref (ad 1)]) (n := 3) (Nat.le_of_ble_eq_true rfl)
  rw [lg_entry_eq]
  generalize (lg_sl ([.ref (ad 1)]) ++ List.replicate (3 - (lg_sl ([.ref (ad 1)])).length) Slot.unset).toArray = ls at hl ⊢
  have hl : lv_has ls 3 [(0, .ref (ad 1))] := hl
  refine lv_iconst (v := nI 0) hx hb d_S_livePageCount_0 (by decide) ?_
  refine lv_istore_n hx hb d_S_livePageCount_1 rfl hl (by decide) rfl (fun ls hl => ?_)
  have hl : lv_has ls 3 [(1, .int (nI 0)), (0, .ref (ad 1))] := hl
  refine lv_iconst (v := nI 0) hx hb d_S_livePageCount_2 (by decide) ?_
  refine lv_istore_n hx hb d_S_livePageCount_3 rfl hl (by decide) rfl (fun ls hl => ?_)
  have hl : lv_has ls 3 [(2, .int (nI 0)), (1, .int (nI 0)), (0, .ref (ad 1))] := hl
  have lp4 : ∀ (n : Nat) (k : Nat) (ls : Array Slot), (32 - k) < n → (k ≤ 32) → lv_has ls 3 [(0, .ref (ad 1)), (1, .int (nI 0)), (2, .int (nI k))] → W P l e (headSpec w_S_livePageCount ({ frames := 1, cells := 0, slots := 0, locals := 22 })).room s m (([.ref (ad 1)] : List Value).toArray) below meth c0 s.heap [] 0 0 (MQ below (vp_Si (fun r => r = nI 0)) (([.ref (ad 1)] : List Value).toArray) s 0 0 (fun _ => False)) (F0 m 4 ls []) := by
    intro n
    induction n with
    | zero => intro k ls hm; intros; omega
    | succ n ih4 =>
      intro k ls hm hk hl
      refine lv_iload_n hx hb d_S_livePageCount_4 rfl (lv_at hl 2 rfl) ?_
      refine lv_bipush (v := nI 32) hx hb d_S_livePageCount_5 (by decide) ?_
      refine lv_icmp_ge (tgt := 27) hx hb d_S_livePageCount_7 (by decide) (fun c7 => ?_) (fun c7 => ?_)
      ·
        have c7 := cd_ge_t (by omega) (by omega) c7
        refine lv_iload_n hx hb d_S_livePageCount_27 rfl (lv_at hl 1 rfl) ?_
        exact W.iret (v := nI 0) hx hb hr (fun t ht hW => ⟨nI 0, rfl, by first | rfl | trivial | omega, ht⟩) (fun q hq => by cases hq) d_S_livePageCount_28
      ·
        have c7 := cd_ge_f (by omega) (by omega) c7
        refine lv_aload_n hx hb d_S_livePageCount_10 rfl (lv_at hl 0 rfl) ?_
        refine lv_iload_n hx hb d_S_livePageCount_11 rfl (lv_at hl 2 rfl) ?_
        refine vp_callSi (va_runV (C := R_S) (As := [.int (nI k)]) (rest := []) ⟨hx, hb, hml, hown, hts⟩ (c_S_isLive_f l dC dI ad cd w wr fl pw sc lw rot vb rec tk live row cur ser dur wo bts us act rd rs k (by omega) (hlv)) (cwV 1 hts (g_V t_238 t_240 s_5 t_2 t_241) rfl rfl rfl (by decide +kernel) ⟨by decide, by decide⟩) (xR_v hP hK 1 rfl rfl) rfl rfl hl.1 rfl (lv_room (Nat.le_of_ble_eq_true rfl)) d_S_livePageCount_12 ⟨Nat.le_refl _, Nat.le_refl _⟩).run (fun r12 q12 => ?_)
        subst q12
        refine lv_if_eq (tgt := 21) hx hb d_S_livePageCount_15 (by decide) (fun c15 => ?_) (fun c15 => ?_)
        ·
          refine lv_iinc (k := 2) (v := nI (k + 1)) hx hb d_S_livePageCount_21 hl rfl (nI_1 _) (by decide) rfl (fun ls hl => ?_)
          have hl : lv_has ls 3 [(2, .int (nI (k + 1))), (0, .ref (ad 1)), (1, .int (nI 0))] := hl
          refine lv_goto (tgt := 4) hx hb d_S_livePageCount_24 (by decide) ?_
          exact ih4 (k + 1) ls (by omega) (by omega) (lv_sub hl [1, 2, 0] rfl)
        ·
          exact absurd c15 (by decide)
  exact lp4 _ 0 ls (Nat.lt_succ_self _) (by omega) (lv_sub hl [2, 1, 0] rfl)
end
section
set_option maxHeartbeats 4000000 in
set_option maxRecDepth 100000 in
theorem c_R_forgetReadings (l : Launch) (dC : Nat → ClassId) (dI : Nat → Nat → Nat) (ad cd : Nat → Nat) (sz : Nat) (w wr fl : Nat → Int32) (pw sc : Int32) (lw rot vb : Nat → Int32) (rec tk : Int32) (live row : Nat → Int32) (cur ser dur wo : Int32) (bts : Nat → Int32) (us : Int32) (act : Nat → Int32) (rd rs : Int32)  : Met l y_R_forgetReadings w_R_forgetReadings ({ frames := 0, cells := 0, slots := 0, locals := 0 }) (xP (dC, dI) vwCl (xt cd) (xw ad cd w wr fl pw sc lw rot vb rec tk live row cur ser dur wo bts us act rd rs) sz [.ref (ad 0)]) (va_Qv (fun (u : Unit) => True) (fun (u : Unit) (t : State) => xB (dC, dI) vwCl (xt cd) (xA 15 ad sz) (xw ad cd w wr fl pw sc lw rot vb rec tk live row cur ser dur wo bts us act (nI 0) (nI 0)) t) (xA 15 ad sz)) 0 0 (xA 15 ad sz) := by
  refine Met.ofW (cc := b_R_forgetReadings) (maxL := 1) (ret := none) (by decide) rfl ?_
  intro P e s m args below meth c0 s₁ B hml hv
  obtain ⟨rfl, hsz, hP, hK, hD0⟩ := hv
  have hx := B.exec
  have hb := B.bytes
  have hr := B.returns
  have hts := atoms_spec (ws := w_R_forgetReadings) B.pre
  have hown : s.vm.findClass R_R = some m.cls := findClass_of_methodNamed B.named
  have hlocks := B.notSynchronized
  subst hsz
  have hD := xw_D (sz := s.heap.size) hD0
  have hS : va_S (xA 15 ad s.heap.size) s.heap s.heap [] := va_S.rf
  have hl := lv_entry ([.ref (ad 0)]) (n := 1) (Nat.le_of_ble_eq_true rfl)
  rw [lg_entry_eq]
  generalize (lg_sl ([.ref (ad 0)]) ++ List.replicate (1 - (lg_sl ([.ref (ad 0)])).length) Slot.unset).toArray = ls at hl ⊢
  have hl : lv_has ls 1 [(0, .ref (ad 0))] := hl
  refine lv_aload_n hx hb d_R_forgetReadings_0 rfl (lv_at hl 0 rfl) ?_
  refine lv_iconst (v := nI 0) hx hb d_R_forgetReadings_1 (by decide) ?_
  refine va_put (D := (dC, dI)) (ci := 4) (v := .int (nI 0)) (ty := .int) (C := R_R) (T := F_R) (N := 7) hx hb hts (fun w h => List.mem_cons_of_mem _ (in_R w h)) t_R ok_R nm_R hown hK hP hD hS 0 rfl rfl 5 (by decide) (hts (.fieldLink R_R 41 R_R "readings" "I") (List.mem_cons_of_mem _ t_119)) (fun _ h9 => h9) rfl (by decide +kernel) rfl rfl (Nat.le_of_ble_eq_true rfl) d_R_forgetReadings_2 (fun H locs hP hD hS => ?_)
  have hP : va_P (dC, dI) vwCl (xw ad cd w wr fl pw sc lw rot vb rec tk live row cur ser dur wo bts us act (nI 0) rs) H := hP
  have hD : va_D (xA 15 ad s.heap.size) (xw ad cd w wr fl pw sc lw rot vb rec tk live row cur ser dur wo bts us act (nI 0) rs) := hD
  refine lv_aload_n hx hb d_R_forgetReadings_5 rfl (lv_at hl 0 rfl) ?_
  refine lv_iconst (v := nI 0) hx hb d_R_forgetReadings_6 (by decide) ?_
  refine va_put (D := (dC, dI)) (ci := 4) (v := .int (nI 0)) (ty := .int) (C := R_R) (T := F_R) (N := 7) hx hb hts (fun w h => List.mem_cons_of_mem _ (in_R w h)) t_R ok_R nm_R hown hK hP hD hS 0 rfl rfl 6 (by decide) (hts (.fieldLink R_R 45 R_R "readSteps" "I") (List.mem_cons_of_mem _ t_120)) (fun _ h9 => h9) rfl (by decide +kernel) rfl rfl (Nat.le_of_ble_eq_true rfl) d_R_forgetReadings_7 (fun H locs hP hD hS => ?_)
  have hP : va_P (dC, dI) vwCl (xw ad cd w wr fl pw sc lw rot vb rec tk live row cur ser dur wo bts us act (nI 0) (nI 0)) H := hP
  have hD : va_D (xA 15 ad s.heap.size) (xw ad cd w wr fl pw sc lw rot vb rec tk live row cur ser dur wo bts us act (nI 0) (nI 0)) := hD
  exact W.vret hx hb hr (fun t ht hW => ⟨⟨(), rfl, by first | rfl | trivial | omega, ⟨by rw [ht]; exact hP, va_K.moved hW.alike hK, hD⟩⟩, hS.F ht⟩) hS.2.2 d_R_forgetReadings_10
end
