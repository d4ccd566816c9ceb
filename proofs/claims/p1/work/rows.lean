section
-- ===== PART A: goes FIRST, ahead of the names: the tables' words, and 'selects' of the private methods out of them =====
/-- a private method of a class that the tables say can be made, by its rows of tables_1 -/
def lw_okq (q : MethodName × Nat) : Prop := (q.1.cls ≠ "java/lang/invoke/MethodHandle" ∧ q.1.cls ≠ "java/lang/invoke/VarHandle") ∧ Cond.instantiable q.1.cls q.2 ∈ tables_1 ∧ Cond.privateMethod q.1 ∈ tables_1 ∧ Cond.instanceMethod q.1 ∈ tables_1
theorem lw_p0 : lw_okq (⟨"WeighRecorder", "forgetReadings", "()V"⟩, 7) := ⟨⟨by decide +kernel, by decide +kernel⟩, List.mem_of_getElem? (i := 15) (by decide +kernel), List.mem_of_getElem? (i := 149) (by decide +kernel), List.mem_of_getElem? (i := 150) (by decide +kernel)⟩
theorem lw_p1 : lw_okq (⟨"WeighRecorder$Store", "findNewestPages", "()I"⟩, 7) := ⟨⟨by decide +kernel, by decide +kernel⟩, List.mem_of_getElem? (i := 23) (by decide +kernel), List.mem_of_getElem? (i := 157) (by decide +kernel), List.mem_of_getElem? (i := 158) (by decide +kernel)⟩
theorem lw_p2 : lw_okq (⟨"WeighRecorder$Store", "newerOf", "(II)I"⟩, 7) := ⟨⟨by decide +kernel, by decide +kernel⟩, List.mem_of_getElem? (i := 23) (by decide +kernel), List.mem_of_getElem? (i := 175) (by decide +kernel), List.mem_of_getElem? (i := 176) (by decide +kernel)⟩
theorem lw_p3 : lw_okq (⟨"WeighRecorder$Store", "readLeaf", "(LWeighRecorder$Log;I)I"⟩, 7) := ⟨⟨by decide +kernel, by decide +kernel⟩, List.mem_of_getElem? (i := 23) (by decide +kernel), List.mem_of_getElem? (i := 183) (by decide +kernel), List.mem_of_getElem? (i := 184) (by decide +kernel)⟩
theorem lw_p4 : lw_okq (⟨"WeighRecorder$Log", "applyVoiding", "(II)V"⟩, 5) := ⟨⟨by decide +kernel, by decide +kernel⟩, List.mem_of_getElem? (i := 79) (by decide +kernel), List.mem_of_getElem? (i := 195) (by decide +kernel), List.mem_of_getElem? (i := 196) (by decide +kernel)⟩
theorem lw_p5 : lw_okq (⟨"WeighRecorder$Store", "isLive", "(I)Z"⟩, 7) := ⟨⟨by decide +kernel, by decide +kernel⟩, List.mem_of_getElem? (i := 23) (by decide +kernel), List.mem_of_getElem? (i := 239) (by decide +kernel), List.mem_of_getElem? (i := 240) (by decide +kernel)⟩
theorem lw_p6 : lw_okq (⟨"java/lang/Throwable", "fillInStackTrace", "(I)Ljava/lang/Throwable;"⟩, 6) := ⟨⟨by decide +kernel, by decide +kernel⟩, List.mem_of_getElem? (i := 314) (by decide +kernel), List.mem_of_getElem? (i := 312) (by decide +kernel), List.mem_of_getElem? (i := 313) (by decide +kernel)⟩
theorem lw_p7 : lw_okq (⟨"WeighRecorder", "append", "(III)I"⟩, 7) := ⟨⟨by decide +kernel, by decide +kernel⟩, List.mem_of_getElem? (i := 15) (by decide +kernel), List.mem_of_getElem? (i := 370) (by decide +kernel), List.mem_of_getElem? (i := 371) (by decide +kernel)⟩
theorem lw_p8 : lw_okq (⟨"WeighRecorder$Store", "freePageOfCursor", "()I"⟩, 7) := ⟨⟨by decide +kernel, by decide +kernel⟩, List.mem_of_getElem? (i := 23) (by decide +kernel), List.mem_of_getElem? (i := 392) (by decide +kernel), List.mem_of_getElem? (i := 393) (by decide +kernel)⟩
theorem lw_p9 : lw_okq (⟨"WeighRecorder$Store", "chooseVictim", "()I"⟩, 7) := ⟨⟨by decide +kernel, by decide +kernel⟩, List.mem_of_getElem? (i := 23) (by decide +kernel), List.mem_of_getElem? (i := 412) (by decide +kernel), List.mem_of_getElem? (i := 413) (by decide +kernel)⟩
theorem lw_p10 : lw_okq (⟨"WeighRecorder$Store", "stalePagesOf", "(I)I"⟩, 7) := ⟨⟨by decide +kernel, by decide +kernel⟩, List.mem_of_getElem? (i := 23) (by decide +kernel), List.mem_of_getElem? (i := 416) (by decide +kernel), List.mem_of_getElem? (i := 417) (by decide +kernel)⟩
theorem lw_p11 : lw_okq (⟨"WeighRecorder$Store", "reclaim", "(I)I"⟩, 7) := ⟨⟨by decide +kernel, by decide +kernel⟩, List.mem_of_getElem? (i := 23) (by decide +kernel), List.mem_of_getElem? (i := 421) (by decide +kernel), List.mem_of_getElem? (i := 422) (by decide +kernel)⟩
theorem lw_p12 : lw_okq (⟨"WeighRecorder$Store", "hasLivePages", "(I)Z"⟩, 7) := ⟨⟨by decide +kernel, by decide +kernel⟩, List.mem_of_getElem? (i := 23) (by decide +kernel), List.mem_of_getElem? (i := 425) (by decide +kernel), List.mem_of_getElem? (i := 426) (by decide +kernel)⟩
theorem lw_p13 : lw_okq (⟨"WeighRecorder$Chip", "mayStep", "()Z"⟩, 5) := ⟨⟨by decide +kernel, by decide +kernel⟩, List.mem_of_getElem? (i := 29) (by decide +kernel), List.mem_of_getElem? (i := 433) (by decide +kernel), List.mem_of_getElem? (i := 434) (by decide +kernel)⟩
theorem lw_p14 : lw_okq (⟨"WeighRecorder$Store", "evacuate", "(I)I"⟩, 7) := ⟨⟨by decide +kernel, by decide +kernel⟩, List.mem_of_getElem? (i := 23) (by decide +kernel), List.mem_of_getElem? (i := 441) (by decide +kernel), List.mem_of_getElem? (i := 442) (by decide +kernel)⟩
theorem lw_p15 : lw_okq (⟨"WeighRecorder$Store", "rewritePage", "(II)Z"⟩, 7) := ⟨⟨by decide +kernel, by decide +kernel⟩, List.mem_of_getElem? (i := 23) (by decide +kernel), List.mem_of_getElem? (i := 445) (by decide +kernel), List.mem_of_getElem? (i := 446) (by decide +kernel)⟩
def lw_privs_1 : List (MethodName × Nat) := [(⟨"WeighRecorder", "forgetReadings", "()V"⟩, 7), (⟨"WeighRecorder$Store", "findNewestPages", "()I"⟩, 7), (⟨"WeighRecorder$Store", "newerOf", "(II)I"⟩, 7), (⟨"WeighRecorder$Store", "readLeaf", "(LWeighRecorder$Log;I)I"⟩, 7), (⟨"WeighRecorder$Log", "applyVoiding", "(II)V"⟩, 5), (⟨"WeighRecorder$Store", "isLive", "(I)Z"⟩, 7), (⟨"java/lang/Throwable", "fillInStackTrace", "(I)Ljava/lang/Throwable;"⟩, 6), (⟨"WeighRecorder", "append", "(III)I"⟩, 7), (⟨"WeighRecorder$Store", "freePageOfCursor", "()I"⟩, 7), (⟨"WeighRecorder$Store", "chooseVictim", "()I"⟩, 7), (⟨"WeighRecorder$Store", "stalePagesOf", "(I)I"⟩, 7), (⟨"WeighRecorder$Store", "reclaim", "(I)I"⟩, 7), (⟨"WeighRecorder$Store", "hasLivePages", "(I)Z"⟩, 7), (⟨"WeighRecorder$Chip", "mayStep", "()Z"⟩, 5), (⟨"WeighRecorder$Store", "evacuate", "(I)I"⟩, 7), (⟨"WeighRecorder$Store", "rewritePage", "(II)Z"⟩, 7)]
theorem lw_r1 : ∀ q ∈ lw_privs_1, lw_okq q := List.forall_mem_cons.mpr ⟨lw_p0, List.forall_mem_cons.mpr ⟨lw_p1, List.forall_mem_cons.mpr ⟨lw_p2, List.forall_mem_cons.mpr ⟨lw_p3, List.forall_mem_cons.mpr ⟨lw_p4, List.forall_mem_cons.mpr ⟨lw_p5, List.forall_mem_cons.mpr ⟨lw_p6, List.forall_mem_cons.mpr ⟨lw_p7, List.forall_mem_cons.mpr ⟨lw_p8, List.forall_mem_cons.mpr ⟨lw_p9, List.forall_mem_cons.mpr ⟨lw_p10, List.forall_mem_cons.mpr ⟨lw_p11, List.forall_mem_cons.mpr ⟨lw_p12, List.forall_mem_cons.mpr ⟨lw_p13, List.forall_mem_cons.mpr ⟨lw_p14, List.forall_mem_cons.mpr ⟨lw_p15, fun _ h => absurd h List.not_mem_nil⟩⟩⟩⟩⟩⟩⟩⟩⟩⟩⟩⟩⟩⟩⟩⟩
theorem lw_p16 : lw_okq (⟨"WeighRecorder$Store", "sealRow", "()V"⟩, 7) := ⟨⟨by decide +kernel, by decide +kernel⟩, List.mem_of_getElem? (i := 23) (by decide +kernel), List.mem_of_getElem? (i := 449) (by decide +kernel), List.mem_of_getElem? (i := 450) (by decide +kernel)⟩
theorem lw_p17 : lw_okq (⟨"WeighRecorder$Log", "wordOf", "(II)I"⟩, 5) := ⟨⟨by decide +kernel, by decide +kernel⟩, List.mem_of_getElem? (i := 79) (by decide +kernel), List.mem_of_getElem? (i := 514) (by decide +kernel), List.mem_of_getElem? (i := 515) (by decide +kernel)⟩
theorem lw_p18 : lw_okq (⟨"WeighRecorder$Store", "sumBefore", "(I)I"⟩, 7) := ⟨⟨by decide +kernel, by decide +kernel⟩, List.mem_of_getElem? (i := 23) (by decide +kernel), List.mem_of_getElem? (i := 597) (by decide +kernel), List.mem_of_getElem? (i := 598) (by decide +kernel)⟩
theorem lw_p19 : lw_okq (⟨"WeighRecorder$Line", "addNumber", "(I)V"⟩, 2) := ⟨⟨by decide +kernel, by decide +kernel⟩, List.mem_of_getElem? (i := 101) (by decide +kernel), List.mem_of_getElem? (i := 616) (by decide +kernel), List.mem_of_getElem? (i := 617) (by decide +kernel)⟩
theorem lw_p20 : lw_okq (⟨"WeighRecorder$Line", "addByte", "(I)V"⟩, 2) := ⟨⟨by decide +kernel, by decide +kernel⟩, List.mem_of_getElem? (i := 101) (by decide +kernel), List.mem_of_getElem? (i := 620) (by decide +kernel), List.mem_of_getElem? (i := 621) (by decide +kernel)⟩
theorem lw_p21 : lw_okq (⟨"WeighRecorderModel", "forget", "()V"⟩, 20) := ⟨⟨by decide +kernel, by decide +kernel⟩, List.mem_of_getElem? (i := 703) (by decide +kernel), List.mem_of_getElem? (i := 709) (by decide +kernel), List.mem_of_getElem? (i := 710) (by decide +kernel)⟩
theorem lw_p22 : lw_okq (⟨"WeighRecorderModel", "fails", "(IZ)Z"⟩, 20) := ⟨⟨by decide +kernel, by decide +kernel⟩, List.mem_of_getElem? (i := 703) (by decide +kernel), List.mem_of_getElem? (i := 785) (by decide +kernel), List.mem_of_getElem? (i := 786) (by decide +kernel)⟩
theorem lw_p23 : lw_okq (⟨"WeighRecorderModel", "take", "(III)I"⟩, 20) := ⟨⟨by decide +kernel, by decide +kernel⟩, List.mem_of_getElem? (i := 703) (by decide +kernel), List.mem_of_getElem? (i := 797) (by decide +kernel), List.mem_of_getElem? (i := 798) (by decide +kernel)⟩
theorem lw_p24 : lw_okq (⟨"WeighRecorderModel", "sumOf", "([III)I"⟩, 20) := ⟨⟨by decide +kernel, by decide +kernel⟩, List.mem_of_getElem? (i := 703) (by decide +kernel), List.mem_of_getElem? (i := 801) (by decide +kernel), List.mem_of_getElem? (i := 802) (by decide +kernel)⟩
theorem lw_p25 : lw_okq (⟨"WeighRecorderModel", "writeLeaf", "(II)I"⟩, 20) := ⟨⟨by decide +kernel, by decide +kernel⟩, List.mem_of_getElem? (i := 703) (by decide +kernel), List.mem_of_getElem? (i := 809) (by decide +kernel), List.mem_of_getElem? (i := 810) (by decide +kernel)⟩
theorem lw_p26 : lw_okq (⟨"WeighRecorderModel", "makeRoom", "()I"⟩, 20) := ⟨⟨by decide +kernel, by decide +kernel⟩, List.mem_of_getElem? (i := 703) (by decide +kernel), List.mem_of_getElem? (i := 813) (by decide +kernel), List.mem_of_getElem? (i := 814) (by decide +kernel)⟩
theorem lw_p27 : lw_okq (⟨"WeighRecorderModel", "firstFree", "(I)I"⟩, 20) := ⟨⟨by decide +kernel, by decide +kernel⟩, List.mem_of_getElem? (i := 703) (by decide +kernel), List.mem_of_getElem? (i := 817) (by decide +kernel), List.mem_of_getElem? (i := 818) (by decide +kernel)⟩
theorem lw_p28 : lw_okq (⟨"WeighRecorderModel", "isFree", "(I)Z"⟩, 20) := ⟨⟨by decide +kernel, by decide +kernel⟩, List.mem_of_getElem? (i := 703) (by decide +kernel), List.mem_of_getElem? (i := 821) (by decide +kernel), List.mem_of_getElem? (i := 822) (by decide +kernel)⟩
theorem lw_p29 : lw_okq (⟨"WeighRecorderModel", "isClean", "(I)Z"⟩, 20) := ⟨⟨by decide +kernel, by decide +kernel⟩, List.mem_of_getElem? (i := 703) (by decide +kernel), List.mem_of_getElem? (i := 825) (by decide +kernel), List.mem_of_getElem? (i := 826) (by decide +kernel)⟩
theorem lw_p30 : lw_okq (⟨"WeighRecorderModel", "victim", "()I"⟩, 20) := ⟨⟨by decide +kernel, by decide +kernel⟩, List.mem_of_getElem? (i := 703) (by decide +kernel), List.mem_of_getElem? (i := 829) (by decide +kernel), List.mem_of_getElem? (i := 830) (by decide +kernel)⟩
theorem lw_p31 : lw_okq (⟨"WeighRecorderModel", "staleOf", "(I)I"⟩, 20) := ⟨⟨by decide +kernel, by decide +kernel⟩, List.mem_of_getElem? (i := 703) (by decide +kernel), List.mem_of_getElem? (i := 833) (by decide +kernel), List.mem_of_getElem? (i := 834) (by decide +kernel)⟩
def lw_privs_2 : List (MethodName × Nat) := [(⟨"WeighRecorder$Store", "sealRow", "()V"⟩, 7), (⟨"WeighRecorder$Log", "wordOf", "(II)I"⟩, 5), (⟨"WeighRecorder$Store", "sumBefore", "(I)I"⟩, 7), (⟨"WeighRecorder$Line", "addNumber", "(I)V"⟩, 2), (⟨"WeighRecorder$Line", "addByte", "(I)V"⟩, 2), (⟨"WeighRecorderModel", "forget", "()V"⟩, 20), (⟨"WeighRecorderModel", "fails", "(IZ)Z"⟩, 20), (⟨"WeighRecorderModel", "take", "(III)I"⟩, 20), (⟨"WeighRecorderModel", "sumOf", "([III)I"⟩, 20), (⟨"WeighRecorderModel", "writeLeaf", "(II)I"⟩, 20), (⟨"WeighRecorderModel", "makeRoom", "()I"⟩, 20), (⟨"WeighRecorderModel", "firstFree", "(I)I"⟩, 20), (⟨"WeighRecorderModel", "isFree", "(I)Z"⟩, 20), (⟨"WeighRecorderModel", "isClean", "(I)Z"⟩, 20), (⟨"WeighRecorderModel", "victim", "()I"⟩, 20), (⟨"WeighRecorderModel", "staleOf", "(I)I"⟩, 20)]
theorem lw_r2 : ∀ q ∈ lw_privs_2, lw_okq q := List.forall_mem_cons.mpr ⟨lw_p16, List.forall_mem_cons.mpr ⟨lw_p17, List.forall_mem_cons.mpr ⟨lw_p18, List.forall_mem_cons.mpr ⟨lw_p19, List.forall_mem_cons.mpr ⟨lw_p20, List.forall_mem_cons.mpr ⟨lw_p21, List.forall_mem_cons.mpr ⟨lw_p22, List.forall_mem_cons.mpr ⟨lw_p23, List.forall_mem_cons.mpr ⟨lw_p24, List.forall_mem_cons.mpr ⟨lw_p25, List.forall_mem_cons.mpr ⟨lw_p26, List.forall_mem_cons.mpr ⟨lw_p27, List.forall_mem_cons.mpr ⟨lw_p28, List.forall_mem_cons.mpr ⟨lw_p29, List.forall_mem_cons.mpr ⟨lw_p30, List.forall_mem_cons.mpr ⟨lw_p31, fun _ h => absurd h List.not_mem_nil⟩⟩⟩⟩⟩⟩⟩⟩⟩⟩⟩⟩⟩⟩⟩⟩
theorem lw_p32 : lw_okq (⟨"WeighRecorderModel", "isLive", "(I)Z"⟩, 20) := ⟨⟨by decide +kernel, by decide +kernel⟩, List.mem_of_getElem? (i := 703) (by decide +kernel), List.mem_of_getElem? (i := 837) (by decide +kernel), List.mem_of_getElem? (i := 838) (by decide +kernel)⟩
theorem lw_p33 : lw_okq (⟨"WeighRecorderModel", "move", "(I)Z"⟩, 20) := ⟨⟨by decide +kernel, by decide +kernel⟩, List.mem_of_getElem? (i := 703) (by decide +kernel), List.mem_of_getElem? (i := 841) (by decide +kernel), List.mem_of_getElem? (i := 842) (by decide +kernel)⟩
theorem lw_p34 : lw_okq (⟨"WeighRecorderModel", "write", "(II)Z"⟩, 20) := ⟨⟨by decide +kernel, by decide +kernel⟩, List.mem_of_getElem? (i := 703) (by decide +kernel), List.mem_of_getElem? (i := 845) (by decide +kernel), List.mem_of_getElem? (i := 846) (by decide +kernel)⟩
theorem lw_p35 : lw_okq (⟨"WeighRecorderModel", "step", "()Z"⟩, 20) := ⟨⟨by decide +kernel, by decide +kernel⟩, List.mem_of_getElem? (i := 703) (by decide +kernel), List.mem_of_getElem? (i := 850) (by decide +kernel), List.mem_of_getElem? (i := 851) (by decide +kernel)⟩
theorem lw_p36 : lw_okq (⟨"WeighRecorderModel", "off", "()V"⟩, 20) := ⟨⟨by decide +kernel, by decide +kernel⟩, List.mem_of_getElem? (i := 703) (by decide +kernel), List.mem_of_getElem? (i := 854) (by decide +kernel), List.mem_of_getElem? (i := 855) (by decide +kernel)⟩
theorem lw_p37 : lw_okq (⟨"WeighRecorderModel", "erase", "(I)Z"⟩, 20) := ⟨⟨by decide +kernel, by decide +kernel⟩, List.mem_of_getElem? (i := 703) (by decide +kernel), List.mem_of_getElem? (i := 858) (by decide +kernel), List.mem_of_getElem? (i := 859) (by decide +kernel)⟩
theorem lw_p38 : lw_okq (⟨"WeighRecorderModel", "livesOf", "(I)I"⟩, 20) := ⟨⟨by decide +kernel, by decide +kernel⟩, List.mem_of_getElem? (i := 703) (by decide +kernel), List.mem_of_getElem? (i := 862) (by decide +kernel), List.mem_of_getElem? (i := 863) (by decide +kernel)⟩
theorem lw_p39 : lw_okq (⟨"WeighRecorderModel", "tickets", "()I"⟩, 20) := ⟨⟨by decide +kernel, by decide +kernel⟩, List.mem_of_getElem? (i := 703) (by decide +kernel), List.mem_of_getElem? (i := 866) (by decide +kernel), List.mem_of_getElem? (i := 867) (by decide +kernel)⟩
theorem lw_p40 : lw_okq (⟨"WeighRecorderModel", "isVoiding", "(I)Z"⟩, 20) := ⟨⟨by decide +kernel, by decide +kernel⟩, List.mem_of_getElem? (i := 703) (by decide +kernel), List.mem_of_getElem? (i := 870) (by decide +kernel), List.mem_of_getElem? (i := 871) (by decide +kernel)⟩
theorem lw_p41 : lw_okq (⟨"WeighRecorderModel", "at", "(II)I"⟩, 20) := ⟨⟨by decide +kernel, by decide +kernel⟩, List.mem_of_getElem? (i := 703) (by decide +kernel), List.mem_of_getElem? (i := 874) (by decide +kernel), List.mem_of_getElem? (i := 875) (by decide +kernel)⟩
theorem lw_p42 : lw_okq (⟨"WeighRecorderModel", "placeOf", "(I)I"⟩, 20) := ⟨⟨by decide +kernel, by decide +kernel⟩, List.mem_of_getElem? (i := 703) (by decide +kernel), List.mem_of_getElem? (i := 882) (by decide +kernel), List.mem_of_getElem? (i := 883) (by decide +kernel)⟩
theorem lw_p43 : lw_okq (⟨"WeighRecorderModel", "voided", "(I)I"⟩, 20) := ⟨⟨by decide +kernel, by decide +kernel⟩, List.mem_of_getElem? (i := 703) (by decide +kernel), List.mem_of_getElem? (i := 886) (by decide +kernel), List.mem_of_getElem? (i := 887) (by decide +kernel)⟩
theorem lw_p44 : lw_okq (⟨"WeighRecorderModel", "durable", "()I"⟩, 20) := ⟨⟨by decide +kernel, by decide +kernel⟩, List.mem_of_getElem? (i := 703) (by decide +kernel), List.mem_of_getElem? (i := 895) (by decide +kernel), List.mem_of_getElem? (i := 896) (by decide +kernel)⟩
theorem lw_p45 : lw_okq (⟨"WeighRecorderModel", "net", "(I)I"⟩, 20) := ⟨⟨by decide +kernel, by decide +kernel⟩, List.mem_of_getElem? (i := 703) (by decide +kernel), List.mem_of_getElem? (i := 908) (by decide +kernel), List.mem_of_getElem? (i := 909) (by decide +kernel)⟩
theorem lw_p46 : lw_okq (⟨"WeighRecorderModel", "isBad", "(I)Z"⟩, 20) := ⟨⟨by decide +kernel, by decide +kernel⟩, List.mem_of_getElem? (i := 703) (by decide +kernel), List.mem_of_getElem? (i := 924) (by decide +kernel), List.mem_of_getElem? (i := 925) (by decide +kernel)⟩
theorem lw_p47 : lw_okq (⟨"WeighRecorderModel", "isRight", "(I)Z"⟩, 20) := ⟨⟨by decide +kernel, by decide +kernel⟩, List.mem_of_getElem? (i := 703) (by decide +kernel), List.mem_of_getElem? (i := 928) (by decide +kernel), List.mem_of_getElem? (i := 929) (by decide +kernel)⟩
def lw_privs_3 : List (MethodName × Nat) := [(⟨"WeighRecorderModel", "isLive", "(I)Z"⟩, 20), (⟨"WeighRecorderModel", "move", "(I)Z"⟩, 20), (⟨"WeighRecorderModel", "write", "(II)Z"⟩, 20), (⟨"WeighRecorderModel", "step", "()Z"⟩, 20), (⟨"WeighRecorderModel", "off", "()V"⟩, 20), (⟨"WeighRecorderModel", "erase", "(I)Z"⟩, 20), (⟨"WeighRecorderModel", "livesOf", "(I)I"⟩, 20), (⟨"WeighRecorderModel", "tickets", "()I"⟩, 20), (⟨"WeighRecorderModel", "isVoiding", "(I)Z"⟩, 20), (⟨"WeighRecorderModel", "at", "(II)I"⟩, 20), (⟨"WeighRecorderModel", "placeOf", "(I)I"⟩, 20), (⟨"WeighRecorderModel", "voided", "(I)I"⟩, 20), (⟨"WeighRecorderModel", "durable", "()I"⟩, 20), (⟨"WeighRecorderModel", "net", "(I)I"⟩, 20), (⟨"WeighRecorderModel", "isBad", "(I)Z"⟩, 20), (⟨"WeighRecorderModel", "isRight", "(I)Z"⟩, 20)]
theorem lw_r3 : ∀ q ∈ lw_privs_3, lw_okq q := List.forall_mem_cons.mpr ⟨lw_p32, List.forall_mem_cons.mpr ⟨lw_p33, List.forall_mem_cons.mpr ⟨lw_p34, List.forall_mem_cons.mpr ⟨lw_p35, List.forall_mem_cons.mpr ⟨lw_p36, List.forall_mem_cons.mpr ⟨lw_p37, List.forall_mem_cons.mpr ⟨lw_p38, List.forall_mem_cons.mpr ⟨lw_p39, List.forall_mem_cons.mpr ⟨lw_p40, List.forall_mem_cons.mpr ⟨lw_p41, List.forall_mem_cons.mpr ⟨lw_p42, List.forall_mem_cons.mpr ⟨lw_p43, List.forall_mem_cons.mpr ⟨lw_p44, List.forall_mem_cons.mpr ⟨lw_p45, List.forall_mem_cons.mpr ⟨lw_p46, List.forall_mem_cons.mpr ⟨lw_p47, fun _ h => absurd h List.not_mem_nil⟩⟩⟩⟩⟩⟩⟩⟩⟩⟩⟩⟩⟩⟩⟩⟩
theorem lw_p48 : lw_okq (⟨"WeighRecorderModel", "onChip", "(I)I"⟩, 20) := ⟨⟨by decide +kernel, by decide +kernel⟩, List.mem_of_getElem? (i := 703) (by decide +kernel), List.mem_of_getElem? (i := 932) (by decide +kernel), List.mem_of_getElem? (i := 933) (by decide +kernel)⟩
theorem lw_p49 : lw_okq (⟨"WeighRecorderModel", "sayNumber", "(J)V"⟩, 20) := ⟨⟨by decide +kernel, by decide +kernel⟩, List.mem_of_getElem? (i := 703) (by decide +kernel), List.mem_of_getElem? (i := 940) (by decide +kernel), List.mem_of_getElem? (i := 941) (by decide +kernel)⟩
theorem lw_p50 : lw_okq (⟨"WeighRecorderModel", "say", "(I)V"⟩, 20) := ⟨⟨by decide +kernel, by decide +kernel⟩, List.mem_of_getElem? (i := 703) (by decide +kernel), List.mem_of_getElem? (i := 944) (by decide +kernel), List.mem_of_getElem? (i := 945) (by decide +kernel)⟩
theorem lw_p51 : lw_okq (⟨"WeighRecorderModel", "latest", "(I)I"⟩, 20) := ⟨⟨by decide +kernel, by decide +kernel⟩, List.mem_of_getElem? (i := 703) (by decide +kernel), List.mem_of_getElem? (i := 967) (by decide +kernel), List.mem_of_getElem? (i := 968) (by decide +kernel)⟩
theorem lw_p52 : lw_okq (⟨"WeighRecorderModel", "liveCount", "()I"⟩, 20) := ⟨⟨by decide +kernel, by decide +kernel⟩, List.mem_of_getElem? (i := 703) (by decide +kernel), List.mem_of_getElem? (i := 991) (by decide +kernel), List.mem_of_getElem? (i := 992) (by decide +kernel)⟩
theorem lw_p53 : lw_okq (⟨"WeighRecorderModel", "freePages", "()I"⟩, 20) := ⟨⟨by decide +kernel, by decide +kernel⟩, List.mem_of_getElem? (i := 703) (by decide +kernel), List.mem_of_getElem? (i := 995) (by decide +kernel), List.mem_of_getElem? (i := 996) (by decide +kernel)⟩
def lw_privs_4 : List (MethodName × Nat) := [(⟨"WeighRecorderModel", "onChip", "(I)I"⟩, 20), (⟨"WeighRecorderModel", "sayNumber", "(J)V"⟩, 20), (⟨"WeighRecorderModel", "say", "(I)V"⟩, 20), (⟨"WeighRecorderModel", "latest", "(I)I"⟩, 20), (⟨"WeighRecorderModel", "liveCount", "()I"⟩, 20), (⟨"WeighRecorderModel", "freePages", "()I"⟩, 20)]
theorem lw_r4 : ∀ q ∈ lw_privs_4, lw_okq q := List.forall_mem_cons.mpr ⟨lw_p48, List.forall_mem_cons.mpr ⟨lw_p49, List.forall_mem_cons.mpr ⟨lw_p50, List.forall_mem_cons.mpr ⟨lw_p51, List.forall_mem_cons.mpr ⟨lw_p52, List.forall_mem_cons.mpr ⟨lw_p53, fun _ h => absurd h List.not_mem_nil⟩⟩⟩⟩⟩⟩
def lw_privs : List (MethodName × Nat) := lw_privs_1 ++ (lw_privs_2 ++ (lw_privs_3 ++ (lw_privs_4)))
def lw_tbl : List Cond := k2_sels lw_privs ++ tables_1
theorem lw_privs_ok : ∀ q ∈ lw_privs, lw_okq q := by
  show ∀ q ∈ lw_privs_1 ++ (lw_privs_2 ++ (lw_privs_3 ++ (lw_privs_4))), lw_okq q
  exact List.forall_mem_append.mpr ⟨lw_r1, List.forall_mem_append.mpr ⟨lw_r2, List.forall_mem_append.mpr ⟨lw_r3, lw_r4⟩⟩⟩
end
section
def R_C : String := "WeighRecorder$Chip"
def F_C : u_T := fun k => match k with
  | 0 => ("WeighRecorder$Chip", "words", "[I", true)
  | 1 => ("WeighRecorder$Chip", "wear", "[I", true)
  | 2 => ("WeighRecorder$Chip", "failed", "[Z", true)
  | 3 => ("WeighRecorder$Chip", "powered", "Z", false)
  | _ => ("WeighRecorder$Chip", "stepsToCut", "I", false)
def t_C : Nat → FieldType := fun k => match k with
  | 0 => .array .int
  | 1 => .array .int
  | 2 => .array .boolean
  | 3 => .boolean
  | _ => .int
theorem nm_C : ∀ a, a < 5 → ∀ b, b < 5 → a ≠ b → (F_C a).2.1 ≠ (F_C b).2.1 := by decide +kernel
theorem ok_C : ∀ k, k < 5 → parseFieldDescriptor (F_C k).2.2.1 = some (t_C k) := by decide +kernel
def R_N : String := "WeighRecorder$Line"
def F_N : u_T := fun k => match k with
  | 0 => ("WeighRecorder$Line", "bytes", "[B", true)
  | _ => ("WeighRecorder$Line", "used", "I", false)
def t_N : Nat → FieldType := fun k => match k with
  | 0 => .array .byte
  | _ => .int
theorem nm_N : ∀ a, a < 2 → ∀ b, b < 2 → a ≠ b → (F_N a).2.1 ≠ (F_N b).2.1 := by decide +kernel
theorem ok_N : ∀ k, k < 2 → parseFieldDescriptor (F_N k).2.2.1 = some (t_N k) := by decide +kernel
def R_G : String := "WeighRecorder$Log"
def F_G : u_T := fun k => match k with
  | 0 => ("WeighRecorder$Log", "words", "[I", true)
  | 1 => ("WeighRecorder$Log", "recordOfTicket", "[I", true)
  | 2 => ("WeighRecorder$Log", "voidedBy", "[I", true)
  | 3 => ("WeighRecorder$Log", "records", "I", false)
  | _ => ("WeighRecorder$Log", "tickets", "I", false)
def t_G : Nat → FieldType := fun k => match k with
  | 0 => .array .int
  | 1 => .array .int
  | 2 => .array .int
  | 3 => .int
  | _ => .int
theorem nm_G : ∀ a, a < 5 → ∀ b, b < 5 → a ≠ b → (F_G a).2.1 ≠ (F_G b).2.1 := by decide +kernel
theorem ok_G : ∀ k, k < 5 → parseFieldDescriptor (F_G k).2.2.1 = some (t_G k) := by decide +kernel
def R_S : String := "WeighRecorder$Store"
def F_S : u_T := fun k => match k with
  | 0 => ("WeighRecorder$Store", "chip", "LWeighRecorder$Chip;", true)
  | 1 => ("WeighRecorder$Store", "livePages", "[I", true)
  | 2 => ("WeighRecorder$Store", "row", "[I", true)
  | 3 => ("WeighRecorder$Store", "cursor", "I", false)
  | 4 => ("WeighRecorder$Store", "serial", "I", false)
  | 5 => ("WeighRecorder$Store", "durable", "I", false)
  | _ => ("WeighRecorder$Store", "wornOut", "Z", false)
def t_S : Nat → FieldType := fun k => match k with
  | 0 => .object "WeighRecorder$Chip"
  | 1 => .array .int
  | 2 => .array .int
  | 3 => .int
  | 4 => .int
  | 5 => .int
  | _ => .boolean
theorem nm_S : ∀ a, a < 7 → ∀ b, b < 7 → a ≠ b → (F_S a).2.1 ≠ (F_S b).2.1 := by decide +kernel
theorem ok_S : ∀ k, k < 7 → parseFieldDescriptor (F_S k).2.2.1 = some (t_S k) := by decide +kernel
def R_R : String := "WeighRecorder"
def F_R : u_T := fun k => match k with
  | 0 => ("WeighRecorder", "store", "LWeighRecorder$Store;", true)
  | 1 => ("WeighRecorder", "chip", "LWeighRecorder$Chip;", true)
  | 2 => ("WeighRecorder", "log", "LWeighRecorder$Log;", true)
  | 3 => ("WeighRecorder", "line", "LWeighRecorder$Line;", true)
  | 4 => ("WeighRecorder", "active", "[Z", true)
  | 5 => ("WeighRecorder", "readings", "I", false)
  | _ => ("WeighRecorder", "readSteps", "I", false)
def t_R : Nat → FieldType := fun k => match k with
  | 0 => .object "WeighRecorder$Store"
  | 1 => .object "WeighRecorder$Chip"
  | 2 => .object "WeighRecorder$Log"
  | 3 => .object "WeighRecorder$Line"
  | 4 => .array .boolean
  | 5 => .int
  | _ => .int
theorem nm_R : ∀ a, a < 7 → ∀ b, b < 7 → a ≠ b → (F_R a).2.1 ≠ (F_R b).2.1 := by decide +kernel
theorem ok_R : ∀ k, k < 7 → parseFieldDescriptor (F_R k).2.2.1 = some (t_R k) := by decide +kernel
def R_M : String := "WeighRecorderModel"
def F_M : u_T := fun k => match k with
  | 0 => ("WeighRecorderModel", "thrown", "I", false)
  | 1 => ("WeighRecorderModel", "chip", "[I", true)
  | 2 => ("WeighRecorderModel", "wear", "[I", true)
  | 3 => ("WeighRecorderModel", "failed", "[Z", true)
  | 4 => ("WeighRecorderModel", "active", "[Z", true)
  | 5 => ("WeighRecorderModel", "on", "Z", false)
  | 6 => ("WeighRecorderModel", "cut", "I", false)
  | 7 => ("WeighRecorderModel", "records", "I", false)
  | 8 => ("WeighRecorderModel", "log", "[I", true)
  | 9 => ("WeighRecorderModel", "live", "[I", true)
  | 10 => ("WeighRecorderModel", "had", "[I", true)
  | 11 => ("WeighRecorderModel", "serial", "I", false)
  | 12 => ("WeighRecorderModel", "cursor", "I", false)
  | 13 => ("WeighRecorderModel", "readings", "I", false)
  | 14 => ("WeighRecorderModel", "weight", "I", false)
  | 15 => ("WeighRecorderModel", "worn", "Z", false)
  | 16 => ("WeighRecorderModel", "page", "[I", true)
  | 17 => ("WeighRecorderModel", "place", "I", false)
  | 18 => ("WeighRecorderModel", "sought", "I", false)
  | _ => ("WeighRecorderModel", "found", "I", false)
def t_M : Nat → FieldType := fun k => match k with
  | 0 => .int
  | 1 => .array .int
  | 2 => .array .int
  | 3 => .array .boolean
  | 4 => .array .boolean
  | 5 => .boolean
  | 6 => .int
  | 7 => .int
  | 8 => .array .int
  | 9 => .array .int
  | 10 => .array .int
  | 11 => .int
  | 12 => .int
  | 13 => .int
  | 14 => .int
  | 15 => .boolean
  | 16 => .array .int
  | 17 => .int
  | 18 => .int
  | _ => .int
theorem nm_M : ∀ a, a < 20 → ∀ b, b < 20 → a ≠ b → (F_M a).2.1 ≠ (F_M b).2.1 := by decide +kernel
theorem ok_M : ∀ k, k < 20 → parseFieldDescriptor (F_M k).2.2.1 = some (t_M k) := by decide +kernel
def R_L : String := "WeighRecorderLaw"
abbrev vwCl : List vw_C := [(R_C, F_C, 5), (R_N, F_N, 2), (R_G, F_G, 5), (R_S, F_S, 7), (R_R, F_R, 7), (R_M, F_M, 20)]
/-- the tables' good words -/
def gw : List Cond := lw_tbl.filter goodWord
theorem gw_in {w : Cond} (h : w ∈ lw_tbl) (g : goodWord w = true) : w ∈ gw := List.mem_filter.mpr ⟨h, g⟩
theorem gw_good {w : Cond} (h : w ∈ gw) : goodWord w = true := (List.mem_filter.mp h).2
theorem gw_of {w : Cond} (h : w ∈ gw) : w ∈ lw_tbl := (List.mem_filter.mp h).1
theorem tb_1 {w : Cond} (h : w ∈ tables_1_1) : w ∈ lw_tbl := List.mem_append_right _ (show w ∈ tables_1 from List.mem_append_left _ h)
theorem tb_2 {w : Cond} (h : w ∈ tables_1_2) : w ∈ lw_tbl := List.mem_append_right _ (show w ∈ tables_1 from List.mem_append_right _ (List.mem_append_left _ h))
theorem tb_3 {w : Cond} (h : w ∈ tables_1_3) : w ∈ lw_tbl := List.mem_append_right _ (show w ∈ tables_1 from List.mem_append_right _ (List.mem_append_right _ (List.mem_append_left _ h)))
theorem tb_4 {w : Cond} (h : w ∈ tables_1_4) : w ∈ lw_tbl := List.mem_append_right _ (show w ∈ tables_1 from List.mem_append_right _ (List.mem_append_right _ (List.mem_append_right _ (List.mem_append_left _ h))))
theorem tb_5 {w : Cond} (h : w ∈ tables_1_5) : w ∈ lw_tbl := List.mem_append_right _ (show w ∈ tables_1 from List.mem_append_right _ (List.mem_append_right _ (List.mem_append_right _ (List.mem_append_right _ (h)))))
theorem tb_s {q : MethodName × Nat} (h : q ∈ lw_privs) : Cond.selects q.1.cls q.1 q.1 ∈ lw_tbl := List.mem_append_left _ (List.mem_map.mpr ⟨q, h, rfl⟩)
theorem in_C : ∀ w ∈ u_ws R_C F_C 5, w ∈ gw := by
  intro w h
  obtain ⟨k, hk, rfl⟩ := List.mem_map.mp h
  have hk := List.mem_range.mp hk
  rcases (show k = 0 ∨ k = 1 ∨ k = 2 ∨ k = 3 ∨ k = 4 by omega) with rfl | rfl | rfl | rfl | rfl
  · exact gw_in (tb_1 (List.mem_of_getElem? (i := 39) rfl)) (by decide +kernel)
  · exact gw_in (tb_1 (List.mem_of_getElem? (i := 41) rfl)) (by decide +kernel)
  · exact gw_in (tb_1 (List.mem_of_getElem? (i := 43) rfl)) (by decide +kernel)
  · exact gw_in (tb_1 (List.mem_of_getElem? (i := 45) rfl)) (by decide +kernel)
  · exact gw_in (tb_1 (List.mem_of_getElem? (i := 47) rfl)) (by decide +kernel)
theorem in_N : ∀ w ∈ u_ws R_N F_N 2, w ∈ gw := by
  intro w h
  obtain ⟨k, hk, rfl⟩ := List.mem_map.mp h
  have hk := List.mem_range.mp hk
  rcases (show k = 0 ∨ k = 1 by omega) with rfl | rfl
  · exact gw_in (tb_1 (List.mem_of_getElem? (i := 108) rfl)) (by decide +kernel)
  · exact gw_in (tb_1 (List.mem_of_getElem? (i := 110) rfl)) (by decide +kernel)
theorem in_G : ∀ w ∈ u_ws R_G F_G 5, w ∈ gw := by
  intro w h
  obtain ⟨k, hk, rfl⟩ := List.mem_map.mp h
  have hk := List.mem_range.mp hk
  rcases (show k = 0 ∨ k = 1 ∨ k = 2 ∨ k = 3 ∨ k = 4 by omega) with rfl | rfl | rfl | rfl | rfl
  · exact gw_in (tb_1 (List.mem_of_getElem? (i := 89) rfl)) (by decide +kernel)
  · exact gw_in (tb_1 (List.mem_of_getElem? (i := 91) rfl)) (by decide +kernel)
  · exact gw_in (tb_1 (List.mem_of_getElem? (i := 93) rfl)) (by decide +kernel)
  · exact gw_in (tb_1 (List.mem_of_getElem? (i := 95) rfl)) (by decide +kernel)
  · exact gw_in (tb_1 (List.mem_of_getElem? (i := 97) rfl)) (by decide +kernel)
theorem in_S : ∀ w ∈ u_ws R_S F_S 7, w ∈ gw := by
  intro w h
  obtain ⟨k, hk, rfl⟩ := List.mem_map.mp h
  have hk := List.mem_range.mp hk
  rcases (show k = 0 ∨ k = 1 ∨ k = 2 ∨ k = 3 ∨ k = 4 ∨ k = 5 ∨ k = 6 by omega) with rfl | rfl | rfl | rfl | rfl | rfl | rfl
  · exact gw_in (tb_1 (List.mem_of_getElem? (i := 59) rfl)) (by decide +kernel)
  · exact gw_in (tb_1 (List.mem_of_getElem? (i := 61) rfl)) (by decide +kernel)
  · exact gw_in (tb_1 (List.mem_of_getElem? (i := 63) rfl)) (by decide +kernel)
  · exact gw_in (tb_1 (List.mem_of_getElem? (i := 65) rfl)) (by decide +kernel)
  · exact gw_in (tb_1 (List.mem_of_getElem? (i := 67) rfl)) (by decide +kernel)
  · exact gw_in (tb_1 (List.mem_of_getElem? (i := 69) rfl)) (by decide +kernel)
  · exact gw_in (tb_1 (List.mem_of_getElem? (i := 71) rfl)) (by decide +kernel)
theorem in_R : ∀ w ∈ u_ws R_R F_R 7, w ∈ gw := by
  intro w h
  obtain ⟨k, hk, rfl⟩ := List.mem_map.mp h
  have hk := List.mem_range.mp hk
  rcases (show k = 0 ∨ k = 1 ∨ k = 2 ∨ k = 3 ∨ k = 4 ∨ k = 5 ∨ k = 6 by omega) with rfl | rfl | rfl | rfl | rfl | rfl | rfl
  · exact gw_in (tb_1 (List.mem_of_getElem? (i := 121) rfl)) (by decide +kernel)
  · exact gw_in (tb_1 (List.mem_of_getElem? (i := 123) rfl)) (by decide +kernel)
  · exact gw_in (tb_1 (List.mem_of_getElem? (i := 125) rfl)) (by decide +kernel)
  · exact gw_in (tb_1 (List.mem_of_getElem? (i := 127) rfl)) (by decide +kernel)
  · exact gw_in (tb_1 (List.mem_of_getElem? (i := 129) rfl)) (by decide +kernel)
  · exact gw_in (tb_1 (List.mem_of_getElem? (i := 131) rfl)) (by decide +kernel)
  · exact gw_in (tb_1 (List.mem_of_getElem? (i := 133) rfl)) (by decide +kernel)
theorem in_M : ∀ w ∈ u_ws R_M F_M 20, w ∈ gw := by
  intro w h
  obtain ⟨k, hk, rfl⟩ := List.mem_map.mp h
  have hk := List.mem_range.mp hk
  rcases (show k = 0 ∨ k = 1 ∨ k = 2 ∨ k = 3 ∨ k = 4 ∨ k = 5 ∨ k = 6 ∨ k = 7 ∨ k = 8 ∨ k = 9 ∨ k = 10 ∨ k = 11 ∨ k = 12 ∨ k = 13 ∨ k = 14 ∨ k = 15 ∨ k = 16 ∨ k = 17 ∨ k = 18 ∨ k = 19 by omega) with rfl | rfl | rfl | rfl | rfl | rfl | rfl | rfl | rfl | rfl | rfl | rfl | rfl | rfl | rfl | rfl | rfl | rfl | rfl | rfl
  · exact gw_in (tb_4 (List.mem_of_getElem? (i := 12) rfl)) (by decide +kernel)
  · exact gw_in (tb_4 (List.mem_of_getElem? (i := 14) rfl)) (by decide +kernel)
  · exact gw_in (tb_4 (List.mem_of_getElem? (i := 16) rfl)) (by decide +kernel)
  · exact gw_in (tb_4 (List.mem_of_getElem? (i := 18) rfl)) (by decide +kernel)
  · exact gw_in (tb_4 (List.mem_of_getElem? (i := 20) rfl)) (by decide +kernel)
  · exact gw_in (tb_4 (List.mem_of_getElem? (i := 22) rfl)) (by decide +kernel)
  · exact gw_in (tb_4 (List.mem_of_getElem? (i := 24) rfl)) (by decide +kernel)
  · exact gw_in (tb_4 (List.mem_of_getElem? (i := 26) rfl)) (by decide +kernel)
  · exact gw_in (tb_4 (List.mem_of_getElem? (i := 28) rfl)) (by decide +kernel)
  · exact gw_in (tb_4 (List.mem_of_getElem? (i := 30) rfl)) (by decide +kernel)
  · exact gw_in (tb_4 (List.mem_of_getElem? (i := 32) rfl)) (by decide +kernel)
  · exact gw_in (tb_4 (List.mem_of_getElem? (i := 34) rfl)) (by decide +kernel)
  · exact gw_in (tb_4 (List.mem_of_getElem? (i := 36) rfl)) (by decide +kernel)
  · exact gw_in (tb_4 (List.mem_of_getElem? (i := 38) rfl)) (by decide +kernel)
  · exact gw_in (tb_4 (List.mem_of_getElem? (i := 40) rfl)) (by decide +kernel)
  · exact gw_in (tb_4 (List.mem_of_getElem? (i := 42) rfl)) (by decide +kernel)
  · exact gw_in (tb_4 (List.mem_of_getElem? (i := 44) rfl)) (by decide +kernel)
  · exact gw_in (tb_4 (List.mem_of_getElem? (i := 46) rfl)) (by decide +kernel)
  · exact gw_in (tb_4 (List.mem_of_getElem? (i := 48) rfl)) (by decide +kernel)
  · exact gw_in (tb_4 (List.mem_of_getElem? (i := 50) rfl)) (by decide +kernel)
theorem g_c {M y : Cond} (hy : y ∈ gw) : GoodIn (M :: gw) (y :: gw) := fun w h => (List.mem_cons.mp h).elim (fun e => by rw [e]; exact ⟨List.mem_cons_of_mem _ hy, good_of_word (gw_good hy)⟩) (fun h => ⟨List.mem_cons_of_mem _ h, good_of_word (gw_good h)⟩)
theorem g_V {M cy : Cond} {own C : String} {idx : Nat} {y : MethodName} (h1 : .methodLink own idx y ∈ gw) (h2 : .instanceMethod y ∈ gw) (h3 : .selects C y y ∈ gw) (h4 : .initialized C ∈ gw) (h5 : cy ∈ gw) : GoodIn (M :: gw) (wsV own idx C y (cy :: gw)) := by
  intro w h
  have k : ∀ {z : Cond}, z ∈ gw → z ∈ M :: gw ∧ ((z.onTables && z.keeps) = true ∨ ∃ ty, z = .arrayClass ty) := fun hz => ⟨List.mem_cons_of_mem _ hz, good_of_word (gw_good hz)⟩
  rcases List.mem_append.mp h with h | h
  · simp only [List.mem_cons, List.not_mem_nil, or_false] at h
    rcases h with rfl | rfl | rfl | rfl
    · exact k h1
    · exact k h2
    · exact k h3
    · exact k h4
  · exact g_c h5 w h
theorem g_S {M cy : Cond} {own : String} {idx : Nat} {y : MethodName} (h1 : .methodLink own idx y ∈ gw) (h2 : .static y ∈ gw) (h4 : .initialized own ∈ gw) (h5 : cy ∈ gw) : GoodIn (M :: gw) (wsS own idx y (cy :: gw)) := by
  intro w h
  have k : ∀ {z : Cond}, z ∈ gw → z ∈ M :: gw ∧ ((z.onTables && z.keeps) = true ∨ ∃ ty, z = .arrayClass ty) := fun hz => ⟨List.mem_cons_of_mem _ hz, good_of_word (gw_good hz)⟩
  rcases List.mem_append.mp h with h | h
  · simp only [List.mem_cons, List.not_mem_nil, or_false] at h
    rcases h with rfl | rfl | rfl
    · exact k h1
    · exact k h2
    · exact k h4
  · exact g_c h5 w h
end
section
/-! numbers at branches, values on the stack, what a call asks of a world -/
theorem cd_eq_t {a b : Nat} (ha : a < 2 ^ 31) (hb : b < 2 ^ 31) (h : nI a = nI b) : a = b := (nI_eq ha hb).mp h
theorem cd_eq_f {a b : Nat} (_ : a < 2 ^ 31) (_ : b < 2 ^ 31) (h : ¬ nI a = nI b) : ¬ a = b := fun q => h (by rw [q])
theorem cd_ne_t {a b : Nat} (ha : a < 2 ^ 31) (hb : b < 2 ^ 31) (h : ¬ nI a = nI b) : ¬ a = b := cd_eq_f ha hb h
theorem cd_ne_f {a b : Nat} (ha : a < 2 ^ 31) (hb : b < 2 ^ 31) (h : nI a = nI b) : a = b := cd_eq_t ha hb h
theorem cd_lt_t {a b : Nat} (ha : a < 2 ^ 31) (hb : b < 2 ^ 31) (h : nI a < nI b) : a < b := (nI_ltI ha hb).mp h
theorem cd_lt_f {a b : Nat} (ha : a < 2 ^ 31) (hb : b < 2 ^ 31) (h : ¬ nI a < nI b) : ¬ a < b := fun q => h ((nI_ltI ha hb).mpr q)
theorem cd_ge_t {a b : Nat} (ha : a < 2 ^ 31) (hb : b < 2 ^ 31) (h : nI b ≤ nI a) : b ≤ a := (nI_leI hb ha).mp h
theorem cd_ge_f {a b : Nat} (ha : a < 2 ^ 31) (hb : b < 2 ^ 31) (h : ¬ nI b ≤ nI a) : ¬ b ≤ a := fun q => h ((nI_leI hb ha).mpr q)
theorem cd_gt_t {a b : Nat} (ha : a < 2 ^ 31) (hb : b < 2 ^ 31) (h : nI b < nI a) : b < a := (nI_ltI hb ha).mp h
theorem cd_gt_f {a b : Nat} (ha : a < 2 ^ 31) (hb : b < 2 ^ 31) (h : ¬ nI b < nI a) : ¬ b < a := fun q => h ((nI_ltI hb ha).mpr q)
theorem cd_le_t {a b : Nat} (ha : a < 2 ^ 31) (hb : b < 2 ^ 31) (h : nI a ≤ nI b) : a ≤ b := (nI_leI ha hb).mp h
theorem cd_le_f {a b : Nat} (ha : a < 2 ^ 31) (hb : b < 2 ^ 31) (h : ¬ nI a ≤ nI b) : ¬ a ≤ b := fun q => h ((nI_leI ha hb).mpr q)
theorem cz_eq_t {a : Nat} (ha : a < 2 ^ 31) (h : nI a = 0) : a = 0 := cd_eq_t ha (by decide) (by rw [nI_0]; exact h)
theorem cz_eq_f {a : Nat} (_ : a < 2 ^ 31) (h : ¬ nI a = 0) : ¬ a = 0 := fun q => h (by rw [q, nI_0])
theorem cz_ne_t {a : Nat} (ha : a < 2 ^ 31) (h : ¬ nI a = 0) : ¬ a = 0 := cz_eq_f ha h
theorem cz_ne_f {a : Nat} (ha : a < 2 ^ 31) (h : nI a = 0) : a = 0 := cz_eq_t ha h
theorem cz_lt_t {a : Nat} (ha : a < 2 ^ 31) (h : nI a < 0) : False := nI_pos ha h
theorem cz_lt_f {a : Nat} (_ : a < 2 ^ 31) (_ : ¬ nI a < 0) : True := trivial
theorem cz_ge_t {a : Nat} (_ : a < 2 ^ 31) (_ : 0 ≤ nI a) : True := trivial
theorem cz_ge_f {a : Nat} (ha : a < 2 ^ 31) (h : ¬ 0 ≤ nI a) : False := h (nI_pos' ha)
theorem cz_gt_t {a : Nat} (ha : a < 2 ^ 31) (h : 0 < nI a) : 0 < a := cd_lt_t (by decide) ha (by rw [nI_0]; exact h)
theorem cz_gt_f {a : Nat} (ha : a < 2 ^ 31) (h : ¬ 0 < nI a) : a = 0 := by
  have := cd_lt_f (a := 0) (by decide) ha (by rw [nI_0]; exact h)
  omega
theorem cz_le_t {a : Nat} (ha : a < 2 ^ 31) (h : nI a ≤ 0) : a = 0 := by
  have := cd_le_t (b := 0) ha (by decide) (by rw [nI_0]; exact h)
  omega
theorem cz_le_f {a : Nat} (ha : a < 2 ^ 31) (h : ¬ nI a ≤ 0) : 0 < a := by
  have := cd_le_f (b := 0) ha (by decide) (by rw [nI_0]; exact h)
  omega
section TP
variable {p : Program} {l : Launch} {e : Env} {R : Room} {s : State} {m : MethodId} {args : Array Value} {below : List Frame} {meth : Method} {c : Code} {H : Heap} {locs : List Loc} {cells slots : Nat} {Q : State → Prop} {pc : Nat} {ls : Array Slot} {rest : List Value}
theorem tp_i {x y : Int32} (h : x = y) (k : W p l e R s m args below meth c H locs cells slots Q (F0 m pc ls (.int y :: rest))) : W p l e R s m args below meth c H locs cells slots Q (F0 m pc ls (.int x :: rest)) := h ▸ k
theorem tp_l {x y : Int64} (h : x = y) (k : W p l e R s m args below meth c H locs cells slots Q (F0 m pc ls (.long y :: rest))) : W p l e R s m args below meth c H locs cells slots Q (F0 m pc ls (.long x :: rest)) := h ▸ k
end TP
/-- a reader's start: the world and the tables -/
def xR (D : va_G) (cl : List vw_C) (tys : List (ClassId × FieldType)) (ws : va_W) (av : List Value) : Array Value → State → Prop := va_Pc av (fun U => va_P D cl ws U.heap ∧ va_K D cl tys U)
/-- a writer's start: and the cells are apart -/
def xP (D : va_G) (cl : List vw_C) (tys : List (ClassId × FieldType)) (ws : va_W) (sz : Nat) (av : List Value) : Array Value → State → Prop := va_Pc av (fun U => U.heap.size = sz ∧ va_P D cl ws U.heap ∧ va_K D cl tys U ∧ va_D (fun _ => True) ws)
/-- a writer's end -/
def xB (D : va_G) (cl : List vw_C) (tys : List (ClassId × FieldType)) (A : Nat → Prop) (ws : va_W) (t : State) : Prop := va_P D cl ws t.heap ∧ va_K D cl tys t ∧ va_D A ws
theorem xR_blind {D : va_G} {cl : List vw_C} {tys : List (ClassId × FieldType)} {ws : va_W} {av : List Value} : FrameBlind (xR D cl tys ws av) := fun a U g mk q => by
  obtain ⟨q0, qP, qK⟩ := q
  exact ⟨q0, qP, va_K.moved (u := U) (U := U.calling g mk a) (Vm.Alike.refl U.vm) qK⟩
theorem xP_blind {D : va_G} {cl : List vw_C} {tys : List (ClassId × FieldType)} {ws : va_W} {sz : Nat} {av : List Value} : FrameBlind (xP D cl tys ws sz av) := fun a U g mk q => by
  obtain ⟨q0, q1, qP, qK, qD⟩ := q
  exact ⟨q0, q1, qP, va_K.moved (u := U) (U := U.calling g mk a) (Vm.Alike.refl U.vm) qK, qD⟩
theorem xR_v {s : State} {H : Heap} {D : va_G} {cl : List vw_C} {tys : List (ClassId × FieldType)} {ws : va_W} {As : List Value} {b ci : Nat} {fs : List Value} {q : vw_C} (hP : va_P D cl ws H) (hK : va_K D cl tys s) (k : Nat) (he : ws[k]? = some (b, .inr (ci, fs))) (hc : cl[ci]? = some q) : PreV s H q.1 b (xR D cl tys ws (.ref b :: As)) As :=
  ⟨xR_blind, va_recv hK hP hc he, fun U hU hW => ⟨rfl, by rw [hU]; exact hP, va_K.moved hW.alike hK⟩⟩
theorem xR_s {s : State} {H : Heap} {D : va_G} {cl : List vw_C} {tys : List (ClassId × FieldType)} {ws : va_W} {As : List Value} (hP : va_P D cl ws H) (hK : va_K D cl tys s) : PreS s H (xR D cl tys ws As) As :=
  ⟨xR_blind, fun U hU hW => ⟨rfl, by rw [hU]; exact hP, va_K.moved hW.alike hK⟩⟩
theorem xP_v {s : State} {H : Heap} {D : va_G} {cl : List vw_C} {tys : List (ClassId × FieldType)} {A : Nat → Prop} {ws : va_W} {As : List Value} {b ci : Nat} {fs : List Value} {q : vw_C} (hP : va_P D cl ws H) (hK : va_K D cl tys s) (hD : va_D A ws) (k : Nat) (he : ws[k]? = some (b, .inr (ci, fs))) (hc : cl[ci]? = some q) : PreV s H q.1 b (xP D cl tys ws H.size (.ref b :: As)) As :=
  ⟨xP_blind, va_recv hK hP hc he, fun U hU hW => ⟨rfl, by rw [hU], by rw [hU]; exact hP, va_K.moved hW.alike hK, hD.weaken (fun _ _ _ _ => trivial)⟩⟩
theorem xP_s {s : State} {H : Heap} {D : va_G} {cl : List vw_C} {tys : List (ClassId × FieldType)} {A : Nat → Prop} {ws : va_W} {As : List Value} (hP : va_P D cl ws H) (hK : va_K D cl tys s) (hD : va_D A ws) : PreS s H (xP D cl tys ws H.size As) As :=
  ⟨xP_blind, fun U hU hW => ⟨rfl, by rw [hU], by rw [hU]; exact hP, va_K.moved hW.alike hK, hD.weaken (fun _ _ _ _ => trivial)⟩⟩
/-- what a method of n cells may change -/
def xA (n : Nat) (ad : Nat → Nat) (sz : Nat) : Nat → Prop := fun q => (∃ k, k < n ∧ q = ad k) ∨ sz ≤ q
theorem xA_up {n : Nat} {ad : Nat → Nat} {a b : Nat} (h : a ≤ b) : ∀ q, xA n ad b q → xA n ad a q := fun q hq => hq.elim Or.inl (fun z => Or.inr (Nat.le_trans h z))
end
section
/-- the recorder's fifteen cells -/
def xw (ad cd : Nat → Nat) (w wr fl : Nat → Int32) (pw sc : Int32) (lw rot vb : Nat → Int32) (rec tk : Int32) (live row : Nat → Int32) (cur ser dur wo : Int32) (bts : Nat → Int32) (us : Int32) (act : Nat → Int32) (rd rs : Int32) : va_W := [(ad 0, .inr (4, [.ref (ad 1), .ref (ad 2), .ref (ad 3), .ref (ad 4), .ref (ad 5), .int rd, .int rs])), (ad 1, .inr (3, [.ref (ad 2), .ref (ad 6), .ref (ad 7), .int cur, .int ser, .int dur, .int wo])), (ad 2, .inr (0, [.ref (ad 8), .ref (ad 9), .ref (ad 10), .int pw, .int sc])), (ad 3, .inr (2, [.ref (ad 11), .ref (ad 12), .ref (ad 13), .int rec, .int tk])), (ad 4, .inr (1, [.ref (ad 14), .int us])), (ad 5, .inl (cd 5, 40, .inl act)), (ad 6, .inl (cd 6, 16, .inl live)), (ad 7, .inl (cd 7, 16, .inl row)), (ad 8, .inl (cd 8, 512, .inl w)), (ad 9, .inl (cd 9, 8, .inl wr)), (ad 10, .inl (cd 10, 8, .inl fl)), (ad 11, .inl (cd 11, 192, .inl lw)), (ad 12, .inl (cd 12, 48, .inl rot)), (ad 13, .inl (cd 13, 48, .inl vb)), (ad 14, .inl (cd 14, 32, .inl bts))]
def xt (cd : Nat → Nat) : List (ClassId × FieldType) := [(cd 5, .boolean), (cd 6, .int), (cd 7, .int), (cd 8, .int), (cd 9, .int), (cd 10, .boolean), (cd 11, .int), (cd 12, .int), (cd 13, .int), (cd 14, .byte)]
/-- the reference's nine cells -/
def mw_ (am cm : Nat → Nat) (th : Int32) (mw mwr mfl mact : Nat → Int32) (on cut mrec : Int32) (mlog mlive had : Nat → Int32) (mser mcur mrd mwt worn : Int32) (pg : Nat → Int32) (pla sou fou : Int32) : va_W := [(am 0, .inr (5, [.int th, .ref (am 1), .ref (am 2), .ref (am 3), .ref (am 4), .int on, .int cut, .int mrec, .ref (am 5), .ref (am 6), .ref (am 7), .int mser, .int mcur, .int mrd, .int mwt, .int worn, .ref (am 8), .int pla, .int sou, .int fou])), (am 1, .inl (cm 1, 512, .inl mw)), (am 2, .inl (cm 2, 8, .inl mwr)), (am 3, .inl (cm 3, 8, .inl mfl)), (am 4, .inl (cm 4, 40, .inl mact)), (am 5, .inl (cm 5, 192, .inl mlog)), (am 6, .inl (cm 6, 16, .inl mlive)), (am 7, .inl (cm 7, 16, .inl had)), (am 8, .inl (cm 8, 16, .inl pg))]
def mt (cm : Nat → Nat) : List (ClassId × FieldType) := [(cm 1, .int), (cm 2, .int), (cm 3, .boolean), (cm 4, .boolean), (cm 5, .int), (cm 6, .int), (cm 7, .int), (cm 8, .int)]
theorem xw_D {B : Nat → Prop} {ad cd : Nat → Nat} {sz : Nat} {w wr fl : Nat → Int32} {pw sc : Int32} {lw rot vb : Nat → Int32} {rec tk : Int32} {live row : Nat → Int32} {cur ser dur wo : Int32} {bts : Nat → Int32} {us : Int32} {act : Nat → Int32} {rd rs : Int32} (h : va_D B (xw ad cd w wr fl pw sc lw rot vb rec tk live row cur ser dur wo bts us act rd rs)) : va_D (xA 15 ad sz) (xw ad cd w wr fl pw sc lw rot vb rec tk live row cur ser dur wo bts us act rd rs) := by
  refine ⟨h.1, fun k q hk => ?_⟩
  have hl : k < 15 := (List.getElem?_eq_some_iff.mp hk).1
  rcases (show k = 0 ∨ k = 1 ∨ k = 2 ∨ k = 3 ∨ k = 4 ∨ k = 5 ∨ k = 6 ∨ k = 7 ∨ k = 8 ∨ k = 9 ∨ k = 10 ∨ k = 11 ∨ k = 12 ∨ k = 13 ∨ k = 14 by omega) with rfl | rfl | rfl | rfl | rfl | rfl | rfl | rfl | rfl | rfl | rfl | rfl | rfl | rfl | rfl <;> (cases hk; exact Or.inl ⟨_, hl, rfl⟩)
theorem xw_J {A : Nat → Prop} {B : Nat → Prop} {ad cd : Nat → Nat} {w wr fl : Nat → Int32} {pw sc : Int32} {lw rot vb : Nat → Int32} {rec tk : Int32} {live row : Nat → Int32} {cur ser dur wo : Int32} {bts : Nat → Int32} {us : Int32} {act : Nat → Int32} {rd rs : Int32} (h : va_D B (xw ad cd w wr fl pw sc lw rot vb rec tk live row cur ser dur wo bts us act rd rs)) (hA : ∀ k, k < 15 → A (ad k)) : va_D A (xw ad cd w wr fl pw sc lw rot vb rec tk live row cur ser dur wo bts us act rd rs) := by
  refine ⟨h.1, fun k q hk => ?_⟩
  have hl : k < 15 := (List.getElem?_eq_some_iff.mp hk).1
  rcases (show k = 0 ∨ k = 1 ∨ k = 2 ∨ k = 3 ∨ k = 4 ∨ k = 5 ∨ k = 6 ∨ k = 7 ∨ k = 8 ∨ k = 9 ∨ k = 10 ∨ k = 11 ∨ k = 12 ∨ k = 13 ∨ k = 14 by omega) with rfl | rfl | rfl | rfl | rfl | rfl | rfl | rfl | rfl | rfl | rfl | rfl | rfl | rfl | rfl <;> (cases hk; exact hA _ hl)
theorem mw_D {B : Nat → Prop} {am cm : Nat → Nat} {sz : Nat} {th : Int32} {mw mwr mfl mact : Nat → Int32} {on cut mrec : Int32} {mlog mlive had : Nat → Int32} {mser mcur mrd mwt worn : Int32} {pg : Nat → Int32} {pla sou fou : Int32} (h : va_D B (mw_ am cm th mw mwr mfl mact on cut mrec mlog mlive had mser mcur mrd mwt worn pg pla sou fou)) : va_D (xA 9 am sz) (mw_ am cm th mw mwr mfl mact on cut mrec mlog mlive had mser mcur mrd mwt worn pg pla sou fou) := by
  refine ⟨h.1, fun k q hk => ?_⟩
  have hl : k < 9 := (List.getElem?_eq_some_iff.mp hk).1
  rcases (show k = 0 ∨ k = 1 ∨ k = 2 ∨ k = 3 ∨ k = 4 ∨ k = 5 ∨ k = 6 ∨ k = 7 ∨ k = 8 by omega) with rfl | rfl | rfl | rfl | rfl | rfl | rfl | rfl | rfl <;> (cases hk; exact Or.inl ⟨_, hl, rfl⟩)
theorem mw_J {A : Nat → Prop} {B : Nat → Prop} {am cm : Nat → Nat} {th : Int32} {mw mwr mfl mact : Nat → Int32} {on cut mrec : Int32} {mlog mlive had : Nat → Int32} {mser mcur mrd mwt worn : Int32} {pg : Nat → Int32} {pla sou fou : Int32} (h : va_D B (mw_ am cm th mw mwr mfl mact on cut mrec mlog mlive had mser mcur mrd mwt worn pg pla sou fou)) (hA : ∀ k, k < 9 → A (am k)) : va_D A (mw_ am cm th mw mwr mfl mact on cut mrec mlog mlive had mser mcur mrd mwt worn pg pla sou fou) := by
  refine ⟨h.1, fun k q hk => ?_⟩
  have hl : k < 9 := (List.getElem?_eq_some_iff.mp hk).1
  rcases (show k = 0 ∨ k = 1 ∨ k = 2 ∨ k = 3 ∨ k = 4 ∨ k = 5 ∨ k = 6 ∨ k = 7 ∨ k = 8 by omega) with rfl | rfl | rfl | rfl | rfl | rfl | rfl | rfl | rfl <;> (cases hk; exact hA _ hl)
/-- a free page -/
def fp (w : Nat → Int32) (p : Nat) : Prop := ∀ i, i < 16 → w (16 * p + i) = -1
end
section
abbrev b_C_isPowered : ByteArray := prog_2_method_2_code
def y_C_isPowered : MethodName := ⟨R_C, "isPowered", "()Z"⟩
def w_C_isPowered : List Cond := .code y_C_isPowered b_C_isPowered 1 (some (.boolean)) :: gw
abbrev b_C_read : ByteArray := prog_2_method_6_code
def y_C_read : MethodName := ⟨R_C, "read", "(II)I"⟩
def w_C_read : List Cond := .code y_C_read b_C_read 3 (some (.int)) :: gw
abbrev b_C_isFree : ByteArray := prog_2_method_14_code
def y_C_isFree : MethodName := ⟨R_C, "isFree", "(I)Z"⟩
def w_C_isFree : List Cond := .code y_C_isFree b_C_isFree 4 (some (.boolean)) :: gw
theorem t_37 : (.fieldLink R_C 22 R_C "powered" "Z" : Cond) ∈ gw := gw_in (tb_1 (List.mem_of_getElem? (i := 37) rfl)) (by first | rfl | decide +kernel)
theorem t_34 : (.fieldLink R_C 9 R_C "words" "[I" : Cond) ∈ gw := gw_in (tb_1 (List.mem_of_getElem? (i := 34) rfl)) (by first | rfl | decide +kernel)
theorem d_C_isPowered_0 : decode b_C_isPowered 0 = .ok (.aload_n 0, 1) := by decide +kernel
theorem d_C_isPowered_1 : decode b_C_isPowered 1 = .ok (.getfield 22, 3) := by decide +kernel
theorem d_C_isPowered_4 : decode b_C_isPowered 4 = .ok (.ireturn, 1) := by decide +kernel
theorem d_C_read_0 : decode b_C_read 0 = .ok (.aload_n 0, 1) := by decide +kernel
theorem d_C_read_1 : decode b_C_read 1 = .ok (.getfield 9, 3) := by decide +kernel
theorem d_C_read_4 : decode b_C_read 4 = .ok (.iload_n 1, 1) := by decide +kernel
theorem d_C_read_5 : decode b_C_read 5 = .ok (.bipush 16, 2) := by decide +kernel
theorem d_C_read_7 : decode b_C_read 7 = .ok (.imul, 1) := by decide +kernel
theorem d_C_read_8 : decode b_C_read 8 = .ok (.iload_n 2, 1) := by decide +kernel
theorem d_C_read_9 : decode b_C_read 9 = .ok (.iadd, 1) := by decide +kernel
theorem d_C_read_10 : decode b_C_read 10 = .ok (.iaload, 1) := by decide +kernel
theorem d_C_read_11 : decode b_C_read 11 = .ok (.ireturn, 1) := by decide +kernel
theorem d_C_isFree_0 : decode b_C_isFree 0 = .ok (.iload_n 1, 1) := by decide +kernel
theorem d_C_isFree_1 : decode b_C_isFree 1 = .ok (.bipush 16, 2) := by decide +kernel
theorem d_C_isFree_3 : decode b_C_isFree 3 = .ok (.imul, 1) := by decide +kernel
theorem d_C_isFree_4 : decode b_C_isFree 4 = .ok (.istore_n 2, 1) := by decide +kernel
theorem d_C_isFree_5 : decode b_C_isFree 5 = .ok (.iload_n 2, 1) := by decide +kernel
theorem d_C_isFree_6 : decode b_C_isFree 6 = .ok (.istore_n 3, 1) := by decide +kernel
theorem d_C_isFree_7 : decode b_C_isFree 7 = .ok (.iload_n 3, 1) := by decide +kernel
theorem d_C_isFree_8 : decode b_C_isFree 8 = .ok (.iload_n 2, 1) := by decide +kernel
theorem d_C_isFree_9 : decode b_C_isFree 9 = .ok (.bipush 16, 2) := by decide +kernel
theorem d_C_isFree_11 : decode b_C_isFree 11 = .ok (.iadd, 1) := by decide +kernel
theorem d_C_isFree_12 : decode b_C_isFree 12 = .ok (.if_icmp .ge (21), 3) := by decide +kernel
theorem d_C_isFree_15 : decode b_C_isFree 15 = .ok (.aload_n 0, 1) := by decide +kernel
theorem d_C_isFree_16 : decode b_C_isFree 16 = .ok (.getfield 9, 3) := by decide +kernel
theorem d_C_isFree_19 : decode b_C_isFree 19 = .ok (.iload_n 3, 1) := by decide +kernel
theorem d_C_isFree_20 : decode b_C_isFree 20 = .ok (.iaload, 1) := by decide +kernel
theorem d_C_isFree_21 : decode b_C_isFree 21 = .ok (.iconst (-1), 1) := by decide +kernel
theorem d_C_isFree_22 : decode b_C_isFree 22 = .ok (.if_icmp .eq (5), 3) := by decide +kernel
theorem d_C_isFree_25 : decode b_C_isFree 25 = .ok (.iconst 0, 1) := by decide +kernel
theorem d_C_isFree_26 : decode b_C_isFree 26 = .ok (.ireturn, 1) := by decide +kernel
theorem d_C_isFree_27 : decode b_C_isFree 27 = .ok (.iinc 3 1, 3) := by decide +kernel
theorem d_C_isFree_30 : decode b_C_isFree 30 = .ok (.goto (-23), 3) := by decide +kernel
theorem d_C_isFree_33 : decode b_C_isFree 33 = .ok (.iconst 1, 1) := by decide +kernel
theorem d_C_isFree_34 : decode b_C_isFree 34 = .ok (.ireturn, 1) := by decide +kernel
end
section
set_option maxHeartbeats 4000000 in
set_option maxRecDepth 100000 in
theorem c_C_isPowered (l : Launch) (dC : Nat → ClassId) (dI : Nat → Nat → Nat) (ad cd : Nat → Nat) (w wr fl : Nat → Int32) (pw sc : Int32) (lw rot vb : Nat → Int32) (rec tk : Int32) (live row : Nat → Int32) (cur ser dur wo : Int32) (bts : Nat → Int32) (us : Int32) (act : Nat → Int32) (rd rs : Int32)  (hpw : narrow .boolean (.int pw) = .int pw) : Met l y_C_isPowered w_C_isPowered ({ frames := 0, cells := 0, slots := 0, locals := 0 }) (xR (dC, dI) vwCl (xt cd) (xw ad cd w wr fl pw sc lw rot vb rec tk live row cur ser dur wo bts us act rd rs) [.ref (ad 2)]) (vp_Si (fun r => r = pw)) 0 0 (fun _ => False) := by
  refine Met.ofW (cc := b_C_isPowered) (maxL := 1) (ret := (some (.boolean))) (by decide) rfl ?_
  intro P e s m args below meth c0 s₁ B hml hv
  obtain ⟨rfl, hP, hK⟩ := hv
  have hx := B.exec
  have hb := B.bytes
  have hr := B.returns
  have hts := atoms_spec (ws := w_C_isPowered) B.pre
  have hown : s.vm.findClass R_C = some m.cls := findClass_of_methodNamed B.named
  have hlocks := B.notSynchronized
  have hl := lv_entry ([.ref (ad 2)]) (n := 1) (Nat.le_of_ble_eq_true rfl)
  rw [lg_entry_eq]
  generalize (lg_sl ([.ref (ad 2)]) ++ List.replicate (1 - (lg_sl ([.ref (ad 2)])).length) Slot.unset).toArray = ls at hl ⊢
  have hl : lv_has ls 1 [(0, .ref (ad 2))] := hl
  refine lv_aload_n hx hb d_C_isPowered_0 rfl (lv_at hl 0 rfl) ?_
  refine va_get (D := (dC, dI)) (ci := 0) (v := .int pw) (C := R_C) (T := F_C) (N := 5) hx hb hts (fun w h => List.mem_cons_of_mem _ (in_C w h)) hown hK hP 2 rfl rfl 3 (by decide) (hts (.fieldLink R_C 22 R_C "powered" "Z") (List.mem_cons_of_mem _ t_37)) (fun _ h9 => h9) rfl d_C_isPowered_1 ?_
  exact W.zret (v := pw) hx hb hr (hpw) (fun t ht hW => ⟨pw, rfl, by first | rfl | trivial | omega, ht⟩) (fun q hq => by cases hq) d_C_isPowered_4
set_option maxHeartbeats 4000000 in
set_option maxRecDepth 100000 in
theorem c_C_read (l : Launch) (dC : Nat → ClassId) (dI : Nat → Nat → Nat) (ad cd : Nat → Nat) (w wr fl : Nat → Int32) (pw sc : Int32) (lw rot vb : Nat → Int32) (rec tk : Int32) (live row : Nat → Int32) (cur ser dur wo : Int32) (bts : Nat → Int32) (us : Int32) (act : Nat → Int32) (rd rs : Int32) (p k : Nat) (hp : p < 32) (hk : k < 16) : Met l y_C_read w_C_read ({ frames := 0, cells := 0, slots := 0, locals := 0 }) (xR (dC, dI) vwCl (xt cd) (xw ad cd w wr fl pw sc lw rot vb rec tk live row cur ser dur wo bts us act rd rs) [.ref (ad 2), .int (nI p), .int (nI k)]) (vp_Si (fun r => r = w (16 * p + k))) 0 0 (fun _ => False) := by
  refine Met.ofW (cc := b_C_read) (maxL := 3) (ret := (some (.int))) (by decide) rfl ?_
  intro P e s m args below meth c0 s₁ B hml hv
  obtain ⟨rfl, hP, hK⟩ := hv
  have hx := B.exec
  have hb := B.bytes
  have hr := B.returns
  have hts := atoms_spec (ws := w_C_read) B.pre
  have hown : s.vm.findClass R_C = some m.cls := findClass_of_methodNamed B.named
  have hlocks := B.notSynchronized
  have hl := lv_entry ([.ref (ad 2), .int (nI p), .int (nI k)]) (n := 3) (Nat.le_of_ble_eq_true rfl)
  rw [lg_entry_eq]
  generalize (lg_sl ([.ref (ad 2), .int (nI p), .int (nI k)]) ++ List.replicate (3 - (lg_sl ([.ref (ad 2), .int (nI p), .int (nI k)])).length) Slot.unset).toArray = ls at hl ⊢
  have hl : lv_has ls 3 [(0, .ref (ad 2)), (1, .int (nI p)), (2, .int (nI k))] := hl
  refine lv_aload_n hx hb d_C_read_0 rfl (lv_at hl 0 rfl) ?_
  refine va_get (D := (dC, dI)) (ci := 0) (v := .ref (ad 8)) (C := R_C) (T := F_C) (N := 5) hx hb hts (fun w h => List.mem_cons_of_mem _ (in_C w h)) hown hK hP 2 rfl rfl 0 (by decide) (hts (.fieldLink R_C 9 R_C "words" "[I") (List.mem_cons_of_mem _ t_34)) (fun _ h9 => h9) rfl d_C_read_1 ?_
  refine lv_iload_n hx hb d_C_read_4 rfl (lv_at hl 1 rfl) ?_
  refine lv_bipush (v := nI 16) hx hb d_C_read_5 (by decide) ?_
  refine lv_imul hx hb d_C_read_7 ?_
  refine tp_i (y := nI (p * 16)) (pk_mul _ _) ?_
  refine lv_iload_n hx hb d_C_read_8 rfl (lv_at hl 2 rfl) ?_
  refine lv_iadd hx hb d_C_read_9 ?_
  refine tp_i (y := nI ((p * 16) + k)) (nI_add _ _) ?_
  refine va_iald hx hb hK hP 8 3 rfl rfl (vp_in_nI (by omega) (by decide)) d_C_read_10 ?_
  refine tp_i (y := w ((p * 16) + k)) (by rw [nI_clamp (by omega)]) ?_
  exact W.iret (v := w ((p * 16) + k)) hx hb hr (fun t ht hW => ⟨w ((p * 16) + k), rfl, by rw [Nat.mul_comm 16 p], ht⟩) (fun q hq => by cases hq) d_C_read_11
set_option maxHeartbeats 4000000 in
set_option maxRecDepth 100000 in
theorem c_C_isFree (l : Launch) (dC : Nat → ClassId) (dI : Nat → Nat → Nat) (ad cd : Nat → Nat) (w wr fl : Nat → Int32) (pw sc : Int32) (lw rot vb : Nat → Int32) (rec tk : Int32) (live row : Nat → Int32) (cur ser dur wo : Int32) (bts : Nat → Int32) (us : Int32) (act : Nat → Int32) (rd rs : Int32) (p : Nat) (hp : p < 32) : Met l y_C_isFree w_C_isFree ({ frames := 0, cells := 0, slots := 0, locals := 0 }) (xR (dC, dI) vwCl (xt cd) (xw ad cd w wr fl pw sc lw rot vb rec tk live row cur ser dur wo bts us act rd rs) [.ref (ad 2), .int (nI p)]) (vp_Si (fun r => (r = 1 ∧ fp w p) ∨ (r = 0 ∧ ¬ fp w p))) 0 0 (fun _ => False) := by
  refine Met.ofW (cc := b_C_isFree) (maxL := 4) (ret := (some (.boolean))) (by decide) rfl ?_
  intro P e s m args below meth c0 s₁ B hml hv
  obtain ⟨rfl, hP, hK⟩ := hv
  have hx := B.exec
  have hb := B.bytes
  have hr := B.returns
  have hts := atoms_spec (ws := w_C_isFree) B.pre
  have hown : s.vm.findClass R_C = some m.cls := findClass_of_methodNamed B.named
  have hlocks := B.notSynchronized
  have hl := lv_entry ([.ref (ad 2), .int (nI p)]) (n := 4) (Nat.le_of_ble_eq_true rfl)
  rw [lg_entry_eq]
  generalize (lg_sl ([.ref (ad 2), .int (nI p)]) ++ List.replicate (4 - (lg_sl ([.ref (ad 2), .int (nI p)])).length) Slot.unset).toArray = ls at hl ⊢
  have hl : lv_has ls 4 [(0, .ref (ad 2)), (1, .int (nI p))] := hl
  refine lv_iload_n hx hb d_C_isFree_0 rfl (lv_at hl 1 rfl) ?_
  refine lv_bipush (v := nI 16) hx hb d_C_isFree_1 (by decide) ?_
  refine lv_imul hx hb d_C_isFree_3 ?_
  refine tp_i (y := nI (p * 16)) (pk_mul _ _) ?_
  refine lv_istore_n hx hb d_C_isFree_4 rfl hl (by decide) rfl (fun ls hl => ?_)
  have hl : lv_has ls 4 [(2, .int (nI (p * 16))), (0, .ref (ad 2)), (1, .int (nI p))] := hl
  refine lv_iload_n hx hb d_C_isFree_5 rfl (lv_at hl 0 rfl) ?_
  refine lv_istore_n hx hb d_C_isFree_6 rfl hl (by decide) rfl (fun ls hl => ?_)
  have hl : lv_has ls 4 [(3, .int (nI (p * 16))), (2, .int (nI (p * 16))), (0, .ref (ad 2)), (1, .int (nI p))] := hl
  have lp7 : ∀ (n : Nat) (k : Nat) (ls : Array Slot), (16 - k) < n → (k ≤ 16) → (∀ i, i < k → w (16 * p + i) = -1) → lv_has ls 4 [(0, .ref (ad 2)), (1, .int (nI p)), (2, .int (nI (p * 16))), (3, .int (nI (p * 16 + k)))] → W P l e (headSpec w_C_isFree ({ frames := 0, cells := 0, slots := 0, locals := 0 })).room s m (([.ref (ad 2), .int (nI p)] : List Value).toArray) below meth c0 s.heap [] 0 0 (MQ below (vp_Si (fun r => (r = 1 ∧ fp w p) ∨ (r = 0 ∧ ¬ fp w p))) (([.ref (ad 2), .int (nI p)] : List Value).toArray) s 0 0 (fun _ => False)) (F0 m 7 ls []) := by
    intro n
    induction n with
    | zero => intro k ls hm; intros; omega
    | succ n ih7 =>
      intro k ls hm hk hf hl
      refine lv_iload_n hx hb d_C_isFree_7 rfl (lv_at hl 3 rfl) ?_
      refine lv_iload_n hx hb d_C_isFree_8 rfl (lv_at hl 2 rfl) ?_
      refine lv_bipush (v := nI 16) hx hb d_C_isFree_9 (by decide) ?_
      refine lv_iadd hx hb d_C_isFree_11 ?_
      refine tp_i (y := nI ((p * 16) + 16)) (nI_add _ _) ?_
      refine lv_icmp_ge (tgt := 33) hx hb d_C_isFree_12 (by decide) (fun c12 => ?_) (fun c12 => ?_)
      ·
        have c12 := cd_ge_t (by omega) (by omega) c12
        refine lv_iconst (v := 1) hx hb d_C_isFree_33 (by decide) ?_
        exact W.zret (v := 1) hx hb hr (by first | rfl | decide | assumption) (fun t ht hW => ⟨1, rfl, Or.inl ⟨rfl, fun i hi => hf i (by omega)⟩, ht⟩) (fun q hq => by cases hq) d_C_isFree_34
      ·
        have c12 := cd_ge_f (by omega) (by omega) c12
        refine lv_aload_n hx hb d_C_isFree_15 rfl (lv_at hl 0 rfl) ?_
        refine va_get (D := (dC, dI)) (ci := 0) (v := .ref (ad 8)) (C := R_C) (T := F_C) (N := 5) hx hb hts (fun w h => List.mem_cons_of_mem _ (in_C w h)) hown hK hP 2 rfl rfl 0 (by decide) (hts (.fieldLink R_C 9 R_C "words" "[I") (List.mem_cons_of_mem _ t_34)) (fun _ h9 => h9) rfl d_C_isFree_16 ?_
        refine lv_iload_n hx hb d_C_isFree_19 rfl (lv_at hl 3 rfl) ?_
        refine va_iald hx hb hK hP 8 3 rfl rfl (vp_in_nI (by omega) (by decide)) d_C_isFree_20 ?_
        refine tp_i (y := w (p * 16 + k)) (by rw [nI_clamp (by omega)]) ?_
        refine lv_iconst (v := (-1)) hx hb d_C_isFree_21 (by decide) ?_
        refine lv_icmp_eq (tgt := 27) hx hb d_C_isFree_22 (by decide) (fun c22 => ?_) (fun c22 => ?_)
        ·
          refine lv_iinc (k := 3) (v := nI ((p * 16 + k) + 1)) hx hb d_C_isFree_27 hl rfl (nI_1 _) (by decide) rfl (fun ls hl => ?_)
          have hl : lv_has ls 4 [(3, .int (nI ((p * 16 + k) + 1))), (0, .ref (ad 2)), (1, .int (nI p)), (2, .int (nI (p * 16)))] := hl
          refine lv_goto (tgt := 7) hx hb d_C_isFree_30 (by decide) ?_
          exact ih7 (k + 1) ls (by omega) (by omega) (lt_s hf (by rw [Nat.mul_comm 16 p]; exact c22)) (lv_sub hl [1, 2, 3, 0] rfl)
        ·
          refine lv_iconst (v := 0) hx hb d_C_isFree_25 (by decide) ?_
          exact W.zret (v := 0) hx hb hr (by first | rfl | decide | assumption) (fun t ht hW => ⟨0, rfl, Or.inr ⟨rfl, fun h => c22 (by have := h k (by omega); rw [Nat.mul_comm 16 p] at this; exact this)⟩, ht⟩) (fun q hq => by cases hq) d_C_isFree_26
  exact lp7 _ 0 ls (Nat.lt_succ_self _) (by omega) (fun i hi => absurd hi (Nat.not_lt_zero i)) (lv_sub hl [2, 3, 1, 0] rfl)
end
