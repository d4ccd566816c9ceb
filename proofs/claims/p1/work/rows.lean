section
-- ===== PART A: goes FIRST, ahead of the names: the tables' words, and 'selects' of the private methods out of them =====
/-- a private method of a class that the tables say can be made, by its rows of tables_1 -/
def lw_okq (q : MethodName × Nat) : Prop := (q.1.cls ≠ "java/lang/invoke/MethodHandle" ∧ q.1.cls ≠ "java/lang/invoke/VarHandle") ∧ Cond.instantiable q.1.cls q.2 ∈ tables_1 ∧ Cond.privateMethod q.1 ∈ tables_1 ∧ Cond.instanceMethod q.1 ∈ tables_1
theorem lw_p0 : lw_okq (⟨"WeighRecorder", "forgetReadings", "()V"⟩, 7) := ⟨⟨by decide +kernel, by decide +kernel⟩, List.mem_of_getElem? (i := 15) (by decide +kernel), List.mem_of_getElem? (i := 149) (by decide +kernel), List.mem_of_getElem? (i := 150) (by decide +kernel)⟩
theorem lw_p1 : lw_okq (⟨"WeighRecorder$Store", "findNewestPages", "()I"⟩, 7) := ⟨⟨by decide +kernel, by decide +kernel⟩, List.mem_of_getElem? (i := 23) (by decide +kernel), List.mem_of_getElem? (i := 157) (by decide +kernel), List.mem_of_getElem? (i := 158) (by decide +kernel)⟩
theorem lw_p2 : lw_okq (⟨"WeighRecorder$Store", "newerOf", "(II)I"⟩, 7) := ⟨⟨by decide +kernel, by decide +kernel⟩, List.mem_of_getElem? (i := 23) (by decide +kernel), List.mem_of_getElem? (i := 175) (by decide +kernel), List.mem_of_getElem? (i := 176) (by decide +kernel)⟩
theorem lw_p3 : lw_okq (⟨"WeighRecorder$Store", "readLeaf", "(LWeighRecorder$Log;I)I"⟩, 7) := ⟨⟨by decide +kernel, by decide +kernel⟩, List.mem_of_getElem? (i := 23) (by decide +kernel), List.mem_of_getElem? (i := 183) (by decide +kernel), List.mem_of_getElem? (i := 184) (by decide +kernel)⟩
theorem lw_p4 : lw_okq (⟨"WeighRecorder$Log", "applyVoiding", "(II)V"⟩, 5) := ⟨⟨by decide +kernel, by decide +kernel⟩, List.mem_of_getElem? (i := 79) (by decide +kernel), List.mem_of_getElem? (i := 195) (by decide +kernel), List.mem_of_getElem? (i := 196) (by decide +kernel)⟩
theorem lw_p5 : lw_okq (⟨"WeighRecorder$Store", "isLive", "(I)Z"⟩, 7) := ⟨⟨by decide +kernel, by decide +kernel⟩, List.mem_of_getElem? (i := 23) (by decide +kernel), List.mem_of_getElem? (i := 239) (by decide +kernel), List.mem_of_getElem? (i := 240) (by decide +kernel)⟩
theorem lw_p6 : lw_okq (⟨"java/lang/Throwable", "fillInStackTrace", "(I)Ljava/lang/Throwable;"⟩, 6) := ⟨⟨by decide +kernel, by decide +kernel⟩, List.mem_of_getElem? (i := 314) (by decide +kernel), List.mem_of_getElem? (i := 312) (by decide +kernel), List.mem_of_getElem? (i := 313) (by decide +kernel)⟩
theorem lw_p7 : lw_okq (⟨"WeighRecorder", "append", "(III)I"⟩, 7) := ⟨⟨by decide +kernel, by decide +kernel⟩, List.mem_of_getElem? (i := 15) (by decide +kernel), List.mem_of_getElem? (i := 370) (by decide +kernel), List.mem_of_getElem? (i := 371) (by decide +kernel)⟩
theorem lw_p8 : lw_okq (⟨"WeighRecorder$Store", "freePageOfCursor", "()I"⟩, 7) := ⟨⟨by decide +kernel, by decide +kernel⟩, List.mem_of_getElem? (i := 23) (by decide +kernel), List.mem_of_getElem? (i := 392) (by decide +kernel), List.mem_of_getElem? (i := 393) (by decide +kernel)⟩
theorem lw_p9 : lw_okq (⟨"WeighRecorder$Store", "chooseVictim", "()I"⟩, 7) := ⟨⟨by decide +kernel, by decide +kernel⟩, List.mem_of_getElem? (i := 23) (by decide +kernel), List.mem_of_getElem? (i := 412) (by decide +kernel), List.mem_of_getElem? (i := 413) (by decide +kernel)⟩
theorem lw_p10 : lw_okq (⟨"WeighRecorder$Store", "stalePagesOf", "(I)I"⟩, 7) := ⟨⟨by decide +kernel, by decide +kernel⟩, List.mem_of_getElem? (i := 23) (by decide +kernel), List.mem_of_getElem? (i := 416) (by decide +kernel), List.mem_of_getElem? (i := 417) (by decide +kernel)⟩
theorem lw_p11 : lw_okq (⟨"WeighRecorder$Store", "reclaim", "(I)I"⟩, 7) := ⟨⟨by decide +kernel, by decide +kernel⟩, List.mem_of_getElem? (i := 23) (by decide +kernel), List.mem_of_getElem? (i := 421) (by decide +kernel), List.mem_of_getElem? (i := 422) (by decide +kernel)⟩
theorem lw_p12 : lw_okq (⟨"WeighRecorder$Store", "hasLivePages", "(I)Z"⟩, 7) := ⟨⟨by decide +kernel, by decide +kernel⟩, List.mem_of_getElem? (i := 23) (by decide +kernel), List.mem_of_getElem? (i := 425) (by decide +kernel), List.mem_of_getElem? (i := 426) (by decide +kernel)⟩
theorem lw_p13 : lw_okq (⟨"WeighRecorder$Chip", "mayStep", "()Z"⟩, 5) := ⟨⟨by decide +kernel, by decide +kernel⟩, List.mem_of_getElem? (i := 29) (by decide +kernel), List.mem_of_getElem? (i := 433) (by decide +kernel), List.mem_of_getElem? (i := 434) (by decide +kernel)⟩
theorem lw_p14 : lw_okq (⟨"WeighRecorder$Store", "evacuate", "(I)I"⟩, 7) := ⟨⟨by decide +kernel, by decide +kernel⟩, List.mem_of_getElem? (i := 23) (by decide +kernel), List.mem_of_getElem? (i := 441) (by decide +kernel), List.mem_of_getElem? (i := 442) (by decide +kernel)⟩
theorem lw_p15 : lw_okq (⟨"WeighRecorder$Store", "rewritePage", "(II)Z"⟩, 7) := ⟨⟨by decide +kernel, by decide +kernel⟩, List.mem_of_getElem? (i := 23) (by decide +kernel), List.mem_of_getElem? (i := 445) (by decide +kernel), List.mem_of_getElem? (i := 446) (by decide +kernel)⟩
def lw_privs_1 : List (MethodName × Nat) := [(⟨"WeighRecorder", "forgetReadings", "()V"⟩, 7), (⟨"WeighRecorder$Store", "findNewestPages", "()I"⟩, 7), (⟨"WeighRecorder$Store", "newerOf", "(II)I"⟩, 7), (⟨"WeighRecorder$Store", "readLeaf", "(LWeighRecorder$Log;I)I"⟩, 7), (⟨"WeighRecorder$Log", "applyVoiding", "(II)V"⟩, 5), (⟨"WeighRecorder$Store", "isLive", "(I)Z"⟩, 7), (⟨"java/lang/Throwable", "fillInStackTrace", "(I)Ljava/lang/Throwable;"⟩, 6), (⟨"WeighRecorder", "append", "(III)I"⟩, 7), (⟨"WeighRecorder$Store", "freePageOfCursor", "()I"⟩, 7), (⟨"WeighRecorder$Store", "chooseVictim", "()I"⟩, 7), (⟨"WeighRecorder$Store", "stalePagesOf", "(I)I"⟩, 7), (⟨"WeighRecorder$Store", "reclaim", "(I)I"⟩, 7), (⟨"WeighRecorder$Store", "hasLivePages", "(I)Z"⟩, 7), (⟨"WeighRecorder$Chip", "mayStep", "()Z"⟩, 5), (⟨"WeighRecorder$Store", "evacuate", "(I)I"⟩, 7), (⟨"WeighRecorder$Store", "rewritePage", "(II)Z"⟩, 7)]
theorem lw_r1 : ∀ q ∈ lw_privs_1, lw_okq q := List.forall_mem_cons.mpr ⟨lw_p0, List.forall_mem_cons.mpr ⟨lw_p1, List.forall_mem_cons.mpr ⟨lw_p2, List.forall_mem_cons.mpr ⟨lw_p3, List.forall_mem_cons.mpr ⟨lw_p4, List.forall_mem_cons.mpr ⟨lw_p5, List.forall_mem_cons.mpr ⟨lw_p6, List.forall_mem_cons.mpr ⟨lw_p7, List.forall_mem_cons.mpr ⟨lw_p8, List.forall_mem_cons.mpr ⟨lw_p9, List.forall_mem_cons.mpr ⟨lw_p10, List.forall_mem_cons.mpr ⟨lw_p11, List.forall_mem_cons.mpr ⟨lw_p12, List.forall_mem_cons.mpr ⟨lw_p13, List.forall_mem_cons.mpr ⟨lw_p14, List.forall_mem_cons.mpr ⟨lw_p15, fun _ h => absurd h List.not_mem_nil⟩⟩⟩⟩⟩⟩⟩⟩⟩⟩⟩⟩⟩⟩⟩⟩
theorem lw_p16 : lw_okq (⟨"WeighRecorder$Store", "sealRow", "()V"⟩, 7) := ⟨⟨by decide +kernel, by decide +kernel⟩, List.mem_of_getElem? (i := 23) (by decide +kernel), List.mem_of_getElem? (i := 449) (by decide +kernel), List.mem_of_getElem? (i := 450) (by decide +kernel)⟩
theorem lw_p17 : lw_okq (⟨"WeighRecorder$Log", "wordOf", "(II)I"⟩, 5) := ⟨⟨by decide +kernel, by decide +kernel⟩, List.mem_of_getElem? (i := 79) (by decide +kernel), List.mem_of_getElem? (i := 514) (by decide +kernel), List.mem_of_getElem? (i := 515) (by decide +kernel)⟩
theorem lw_p18 : lw_okq (⟨"WeighRecorder$Store", "sumBefore", "(I)I"⟩, 7) := ⟨⟨by decide +kernel, by decide +kernel⟩, List.mem_of_getElem? (i := 23) (by decide +kernel), List.mem_of_getElem? (i := 597) (by decide +kernel), List.mem_of_getElem? (i := 598) (by decide +kernel)⟩
theorem lw_p19 : lw_okq (⟨"WeighRecorder$Line", "addNumber", "(I)V"⟩, 2) := ⟨⟨by decide +kernel, by decide +kernel⟩, List.mem_of_getElem? (i := 101) (by decide +kernel), List.mem_of_getElem? (i := 616) (by decide +kernel), List.mem_of_getElem? (i := 617) (by decide +kernel)⟩
theorem lw_p20 : lw_okq (⟨"WeighRecorder$Line", "addByte", "(I)V"⟩, 2) := ⟨⟨by decide +kernel, by decide +kernel⟩, List.mem_of_getElem? (i := 101) (by decide +kernel), List.mem_of_getElem? (i := 620) (by decide +kernel), List.mem_of_getElem? (i := 621) (by decide +kernel)⟩
theorem lw_p21 : lw_okq (⟨"WeighRecorderModel", "forget", "()V"⟩, 20) := ⟨⟨by decide +kernel, by decide +kernel⟩, List.mem_of_getElem? (i := 703) (by decide +kernel), List.mem_of_getElem? (i := 709) (by decide +kernel), List.mem_of_getElem? (i := 710) (by decide +kernel)⟩
theorem lw_p22 : lw_okq (⟨"WeighRecorderModel", "fails", "(IZ)Z"⟩, 20) := ⟨⟨by decide +kernel, by decide +kernel⟩, List.mem_of_getElem? (i := 703) (by decide +kernel), List.mem_of_getElem? (i := 785) (by decide +kernel), List.mem_of_getElem? (i := 786) (by decide +kernel)⟩
theorem lw_p23 : lw_okq (⟨"WeighRecorderModel", "take", "(III)I"⟩, 20) := ⟨⟨by decide +kernel, by decide +kernel⟩, List.mem_of_getElem? (i := 703) (by decide +kernel), List.mem_of_getElem? (i := 797) (by decide +kernel), List.mem_of_getElem? (i := 798) (by decide +kernel)⟩
theorem lw_p24 : lw_okq (⟨"WeighRecorderModel", "sumOf", "([III)I"⟩, 20) := ⟨⟨by decide +kernel, by decide +kernel⟩, List.mem_of_getElem? (i := 703) (by decide +kernel), List.mem_of_getElem? (i := 801) (by decide +kernel), List.mem_of_getElem? (i := 802) (by decide +kernel)⟩
theorem lw_p25 : lw_okq (⟨"WeighRecorderModel", "writeLeaf", "(II)I"⟩, 20) := ⟨⟨by decide +kernel, by decide +kernel⟩, List.mem_of_getElem? (i := 703) (by decide +kernel), List.mem_of_getElem? (i := 809) (by decide +kernel), List.mem_of_getElem? (i := 810) (by decide +kernel)⟩
theorem lw_p26 : lw_okq (⟨"WeighRecorderModel", "makeRoom", "()I"⟩, 20) := ⟨⟨by decide +kernel, by decide +kernel⟩, List.mem_of_getElem? (i := 703) (by decide +kernel), List.mem_of_getElem? (i := 813) (by decide +kernel), List.mem_of_getElem? (i := 814) (by decide +kernel)⟩
theorem lw_p27 : lw_okq (⟨"WeighRecorderModel", "firstFree", "(I)I"⟩, 20) := ⟨⟨by decide +kernel, by decide +kernel⟩, List.mem_of_getElem? (i := 703) (by decide +kernel), List.mem_of_getElem? (i := 817) (by decide +kernel), List.mem_of_getElem? (i := 818) (by decide +kernel)⟩
theorem lw_p28 : lw_okq (⟨"WeighRecorderModel", "isFree", "(I)Z"⟩, 20) := ⟨⟨by decide +kernel, by decide +kernel⟩, List.mem_of_getElem? (i := 703) (by decide +kernel), List.mem_of_getElem? (i := 821) (by decide +kernel), List.mem_of_getElem? (i := 822) (by decide +kernel)⟩
theorem lw_p29 : lw_okq (⟨"WeighRecorderModel", "isClean", "(I)Z"⟩, 20) := ⟨⟨by decide +kernel, by decide +kernel⟩, List.mem_of_getElem? (i := 703) (by decide +kernel), List.mem_of_getElem? (i := 825) (by decide +kernel), List.mem_of_getElem? (i := 826) (by decide +kernel)⟩
theorem lw_p30 : lw_okq (⟨"WeighRecorderModel", "victim", "()I"⟩, 20) := ⟨⟨by decide +kernel, by decide +kernel⟩, List.mem_of_getElem? (i := 703) (by decide +kernel), List.mem_of_getElem? (i := 829) (by decide +kernel), List.mem_of_getElem? (i := 830) (by decide +kernel)⟩
theorem lw_p31 : lw_okq (⟨"WeighRecorderModel", "staleOf", "(I)I"⟩, 20) := ⟨⟨by decide +kernel, by decide +kernel⟩, List.mem_of_getElem? (i := 703) (by decide +kernel), List.mem_of_getElem? (i := 833) (by decide +kernel), List.mem_of_getElem? (i := 834) (by decide +kernel)⟩
def lw_privs_2 : List (MethodName × Nat) := [(⟨"WeighRecorder$Store", "sealRow", "()V"⟩, 7), (⟨"WeighRecorder$Log", "wordOf", "(II)I"⟩, 5), (⟨"WeighRecorder$Store", "sumBefore", "(I)I"⟩, 7), (⟨"WeighRecorder$Line", "addNumber", "(I)V"⟩, 2), (⟨"WeighRecorder$Line", "addByte", "(I)V"⟩, 2), (⟨"WeighRecorderModel", "forget", "()V"⟩, 20), (⟨"WeighRecorderModel", "fails", "(IZ)Z"⟩, 20), (⟨"WeighRecorderModel", "take", "(III)I"⟩, 20), (⟨"WeighRecorderModel", "sumOf", "([III)I"⟩, 20), (⟨"WeighRecorderModel", "writeLeaf", "(II)I"⟩, 20), (⟨"WeighRecorderModel", "makeRoom", "()I"⟩, 20), (⟨"WeighRecorderModel", "firstFree", "(I)I"⟩, 20), (⟨"WeighRecorderModel", "isFree", "(I)Z"⟩, 20), (⟨"WeighRecorderModel", "isClean", "(I)Z"⟩, 20), (⟨"WeighRecorderModel", "victim", "()I"⟩, 20), (⟨"WeighRecorderModel", "staleOf", "(I)I"⟩, 20)]
theorem lw_r2 : ∀ q ∈ lw_privs_2, lw_okq q := List.forall_mem_cons.mpr ⟨lw_p16, List.forall_mem_cons.mpr ⟨lw_p17, List.forall_mem_cons.mpr ⟨lw_p18, List.forall_mem_cons.mpr ⟨lw_p19, List.forall_mem_cons.mpr ⟨lw_p20, List.forall_mem_cons.mpr ⟨lw_p21, List.forall_mem_cons.mpr ⟨lw_p22, List.forall_mem_cons.mpr ⟨lw_p23, List.forall_mem_cons.mpr ⟨lw_p24, List.forall_mem_cons.mpr ⟨lw_p25, List.forall_mem_cons.mpr ⟨lw_p26, List.forall_mem_cons.mpr ⟨lw_p27, List.forall_mem_cons.mpr ⟨lw_p28, List.forall_mem_cons.mpr ⟨lw_p29, List.forall_mem_cons.mpr ⟨lw_p30, List.forall_mem_cons.mpr ⟨lw_p31, fun _ h => absurd h List.not_mem_nil⟩⟩⟩⟩⟩⟩⟩⟩⟩⟩⟩⟩⟩⟩⟩⟩
theorem lw_p32 : lw_okq (⟨"WeighRecorderModel", "isLive", "(I)Z"⟩, 20) := ⟨⟨by decide +kernel, by decide +kernel⟩, List.mem_of_getElem? (i := 703) (by decide +kernel), List.mem_of_getElem? (i := 837) (by decide +kernel), List.mem_of_getElem? (i := 838) (by decide +kernel)⟩
theorem lw_p33 : lw_okq (⟨"WeighRecorderModel", "move", "(I)Z"⟩, 20) := ⟨⟨by decide +kernel, by decide +kernel⟩, List.mem_of_getElem? (i := 703) (by decide +kernel), List.mem_of_getElem? (i := 841) (by decide +kernel), List.mem_of_getElem? (i := 842) (by decide +kernel)⟩
theorem lw_p34 : lw_okq (⟨"WeighRecorderModel", "write", "(II)Z"⟩, 20) := ⟨⟨by decide +kernel, by decide +kernel⟩, List.mem_of_getElem? (i := 703) (by decide +kernel), List.mem_of_getElem? (i := 845) (by decide +kernel), List.mem_of_getElem? (i := 846) (by decide +kernel)⟩
theorem lw_p35 : lw_okq (⟨"WeighRecorderModel", "step", "()Z"⟩, 20) := ⟨⟨by decide +kernel, by decide +kernel⟩, List.mem_of_getElem? (i := 703) (by decide +kernel), List.mem_of_getElem? (i := 850) (by decide +kernel), List.mem_of_getElem? (i := 851) (by decide +kernel)⟩
theorem lw_p36 : lw_okq (⟨"WeighRecorderModel", "off", "()V"⟩, 20) := ⟨⟨by decide +kernel, by decide +kernel⟩, List.mem_of_getElem? (i := 703) (by decide +kernel), List.mem_of_getElem? (i := 854) (by decide +kernel), List.mem_of_getElem? (i := 855) (by decide +kernel)⟩
theorem lw_p37 : lw_okq (⟨"WeighRecorderModel", "erase", "(I)Z"⟩, 20) := ⟨⟨by decide +kernel, by decide +kernel⟩, List.mem_of_getElem? (i := 703) (by decide +kernel), List.mem_of_getElem? (i := 858) (by decide +kernel), List.mem_of_getElem? (i := 859) (by decide +kernel)⟩
theorem lw_p38 : lw_okq (⟨"WeighRecorderModel", "livesOf", "(I)I"⟩, 20) := ⟨⟨by decide +kernel, by decide +kernel⟩, List.mem_of_getElem? (i := 703) (by decide +kernel), List.mem_of_getElem? (i := 862) (by decide +kernel), List.mem_of_getElem? (i := 863) (by decide +kernel)⟩
theorem lw_p39 : lw_okq (⟨"WeighRecorderModel", "tickets", "()I"⟩, 20) := ⟨⟨by decide +kernel, by decide +kernel⟩, List.mem_of_getElem? (i := 703) (by decide +kernel), List.mem_of_getElem? (i := 866) (by decide +kernel), List.mem_of_getElem? (i := 867) (by decide +kernel)⟩
theorem lw_p40 : lw_okq (⟨"WeighRecorderModel", "isVoiding", "(I)Z"⟩, 20) := ⟨⟨by decide +kernel, by decide +kernel⟩, List.mem_of_getElem? (i := 703) (by decide +kernel), List.mem_of_getElem? (i := 870) (by decide +kernel), List.mem_of_getElem? (i := 871) (by decide +kernel)⟩
theorem lw_p41 : lw_okq (⟨"WeighRecorderModel", "at", "(II)I"⟩, 20) := ⟨⟨by decide +kernel, by decide +kernel⟩, List.mem_of_getElem? (i := 703) (by decide +kernel), List.mem_of_getElem? (i := 874) (by decide +kernel), List.mem_of_getElem? (i := 875) (by decide +kernel)⟩
theorem lw_p42 : lw_okq (⟨"WeighRecorderModel", "placeOf", "(I)I"⟩, 20) := ⟨⟨by decide +kernel, by decide +kernel⟩, List.mem_of_getElem? (i := 703) (by decide +kernel), List.mem_of_getElem? (i := 882) (by decide +kernel), List.mem_of_getElem? (i := 883) (by decide +kernel)⟩
theorem lw_p43 : lw_okq (⟨"WeighRecorderModel", "voided", "(I)I"⟩, 20) := ⟨⟨by decide +kernel, by decide +kernel⟩, List.mem_of_getElem? (i := 703) (by decide +kernel), List.mem_of_getElem? (i := 886) (by decide +kernel), List.mem_of_getElem? (i := 887) (by decide +kernel)⟩
theorem lw_p44 : lw_okq (⟨"WeighRecorderModel", "durable", "()I"⟩, 20) := ⟨⟨by decide +kernel, by decide +kernel⟩, List.mem_of_getElem? (i := 703) (by decide +kernel), List.mem_of_getElem? (i := 895) (by decide +kernel), List.mem_of_getElem? (i := 896) (by decide +kernel)⟩
theorem lw_p45 : lw_okq (⟨"WeighRecorderModel", "net", "(I)I"⟩, 20) := ⟨⟨by decide +kernel, by decide +kernel⟩, List.mem_of_getElem? (i := 703) (by decide +kernel), List.mem_of_getElem? (i := 908) (by decide +kernel), List.mem_of_getElem? (i := 909) (by decide +kernel)⟩
theorem lw_p46 : lw_okq (⟨"WeighRecorderModel", "isBad", "(I)Z"⟩, 20) := ⟨⟨by decide +kernel, by decide +kernel⟩, List.mem_of_getElem? (i := 703) (by decide +kernel), List.mem_of_getElem? (i := 924) (by decide +kernel), List.mem_of_getElem? (i := 925) (by decide +kernel)⟩
theorem lw_p47 : lw_okq (⟨"WeighRecorderModel", "isRight", "(I)Z"⟩, 20) := ⟨⟨by decide +kernel, by decide +kernel⟩, List.mem_of_getElem? (i := 703) (by decide +kernel), List.mem_of_getElem? (i := 928) (by decide +kernel), List.mem_of_getElem? (i := 929) (by decide +kernel)⟩
def lw_privs_3 : List (MethodName × Nat) := [(⟨"WeighRecorderModel", "isLive", "(I)Z"⟩, 20), (⟨"WeighRecorderModel", "move", "(I)Z"⟩, 20), (⟨"WeighRecorderModel", "write", "(II)Z"⟩, 20), (⟨"WeighRecorderModel", "step", "()Z"⟩, 20), (⟨"WeighRecorderModel", "off", "()V"⟩, 20), (⟨"WeighRecorderModel", "erase", "(I)Z"⟩, 20), (⟨"WeighRecorderModel", "livesOf", "(I)I"⟩, 20), (⟨"WeighRecorderModel", "tickets", "()I"⟩, 20), (⟨"WeighRecorderModel", "isVoiding", "(I)Z"⟩, 20), (⟨"WeighRecorderModel", "at", "(II)I"⟩, 20), (⟨"WeighRecorderModel", "placeOf", "(I)I"⟩, 20), (⟨"WeighRecorderModel", "voided", "(I)I"⟩, 20), (⟨"WeighRecorderModel", "durable", "()I"⟩, 20), (⟨"WeighRecorderModel", "net", "(I)I"⟩, 20), (⟨"WeighRecorderModel", "isBad", "(I)Z"⟩, 20), (⟨"WeighRecorderModel", "isRight", "(I)Z"⟩, 20)]
theorem lw_r3 : ∀ q ∈ lw_privs_3, lw_okq q := List.forall_mem_cons.mpr ⟨lw_p32, List.forall_mem_cons.mpr ⟨lw_p33, List.forall_mem_cons.mpr ⟨lw_p34, List.forall_mem_cons.mpr ⟨lw_p35, List.forall_mem_cons.mpr ⟨lw_p36, List.forall_mem_cons.mpr ⟨lw_p37, List.forall_mem_cons.mpr ⟨lw_p38, List.forall_mem_cons.mpr ⟨lw_p39, List.forall_mem_cons.mpr ⟨lw_p40, List.forall_mem_cons.mpr ⟨lw_p41, List.forall_mem_cons.mpr ⟨lw_p42, List.forall_mem_cons.mpr ⟨lw_p43, List.forall_mem_cons.mpr ⟨lw_p44, List.forall_mem_cons.mpr ⟨lw_p45, List.forall_mem_cons.mpr ⟨lw_p46, List.forall_mem_cons.mpr ⟨lw_p47, fun _ h => absurd h List.not_mem_nil⟩⟩⟩⟩⟩⟩⟩⟩⟩⟩⟩⟩⟩⟩⟩⟩
theorem lw_p48 : lw_okq (⟨"WeighRecorderModel", "onChip", "(I)I"⟩, 20) := ⟨⟨by decide +kernel, by decide +kernel⟩, List.mem_of_getElem? (i := 703) (by decide +kernel), List.mem_of_getElem? (i := 932) (by decide +kernel), List.mem_of_getElem? (i := 933) (by decide +kernel)⟩
theorem lw_p49 : lw_okq (⟨"WeighRecorderModel", "sayNumber", "(J)V"⟩, 20) := ⟨⟨by decide +kernel, by decide +kernel⟩, List.mem_of_getElem? (i := 703) (by decide +kernel), List.mem_of_getElem? (i := 940) (by decide +kernel), List.mem_of_getElem? (i := 941) (by decide +kernel)⟩
theorem lw_p50 : lw_okq (⟨"WeighRecorderModel", "say", "(I)V"⟩, 20) := ⟨⟨by decide +kernel, by decide +kernel⟩, List.mem_of_getElem? (i := 703) (by decide +kernel), List.mem_of_getElem? (i := 944) (by decide +kernel), List.mem_of_getElem? (i := 945) (by decide +kernel)⟩
theorem lw_p51 : lw_okq (⟨"WeighRecorderModel", "latest", "(I)I"⟩, 20) := ⟨⟨by decide +kernel, by decide +kernel⟩, List.mem_of_getElem? (i := 703) (by decide +kernel), List.mem_of_getElem? (i := 967) (by decide +kernel), List.mem_of_getElem? (i := 968) (by decide +kernel)⟩
theorem lw_p52 : lw_okq (⟨"WeighRecorderModel", "liveCount", "()I"⟩, 20) := ⟨⟨by decide +kernel, by decide +kernel⟩, List.mem_of_getElem? (i := 703) (by decide +kernel), List.mem_of_getElem? (i := 991) (by decide +kernel), List.mem_of_getElem? (i := 992) (by decide +kernel)⟩
theorem lw_p53 : lw_okq (⟨"WeighRecorderModel", "freePages", "()I"⟩, 20) := ⟨⟨by decide +kernel, by decide +kernel⟩, List.mem_of_getElem? (i := 703) (by decide +kernel), List.mem_of_getElem? (i := 995) (by decide +kernel), List.mem_of_getElem? (i := 996) (by decide +kernel)⟩
def lw_privs_4 : List (MethodName × Nat) := [(⟨"WeighRecorderModel", "onChip", "(I)I"⟩, 20), (⟨"WeighRecorderModel", "sayNumber", "(J)V"⟩, 20), (⟨"WeighRecorderModel", "say", "(I)V"⟩, 20), (⟨"WeighRecorderModel", "latest", "(I)I"⟩, 20), (⟨"WeighRecorderModel", "liveCount", "()I"⟩, 20), (⟨"WeighRecorderModel", "freePages", "()I"⟩, 20)]
theorem lw_r4 : ∀ q ∈ lw_privs_4, lw_okq q := List.forall_mem_cons.mpr ⟨lw_p48, List.forall_mem_cons.mpr ⟨lw_p49, List.forall_mem_cons.mpr ⟨lw_p50, List.forall_mem_cons.mpr ⟨lw_p51, List.forall_mem_cons.mpr ⟨lw_p52, List.forall_mem_cons.mpr ⟨lw_p53, fun _ h => absurd h List.not_mem_nil⟩⟩⟩⟩⟩⟩
def lw_privs : List (MethodName × Nat) := lw_privs_1 ++ (lw_privs_2 ++ (lw_privs_3 ++ (lw_privs_4)))
def lw_tbl : List Cond := k2_sels lw_privs ++ tables_1
theorem lw_privs_ok : ∀ q ∈ lw_privs, lw_okq q := by
  show ∀ q ∈ lw_privs_1 ++ (lw_privs_2 ++ (lw_privs_3 ++ (lw_privs_4))), lw_okq q
  exact List.forall_mem_append.mpr ⟨lw_r1, List.forall_mem_append.mpr ⟨lw_r2, List.forall_mem_append.mpr ⟨lw_r3, lw_r4⟩⟩⟩
end
section
def R_C : String := "WeighRecorder$Chip"
def F_C : u_T := fun k => match k with
  | 0 => ("WeighRecorder$Chip", "words", "[I", true)
  | 1 => ("WeighRecorder$Chip", "wear", "[I", true)
  | 2 => ("WeighRecorder$Chip", "failed", "[Z", true)
  | 3 => ("WeighRecorder$Chip", "powered", "Z", false)
  | _ => ("WeighRecorder$Chip", "stepsToCut", "I", false)
def t_C : Nat → FieldType := fun k => match k with
  | 0 => .array .int
  | 1 => .array .int
  | 2 => .array .boolean
  | 3 => .boolean
  | _ => .int
theorem nm_C : ∀ a, a < 5 → ∀ b, b < 5 → a ≠ b → (F_C a).2.1 ≠ (F_C b).2.1 := by decide +kernel
theorem ok_C : ∀ k, k < 5 → parseFieldDescriptor (F_C k).2.2.1 = some (t_C k) := by decide +kernel
def R_N : String := "WeighRecorder$Line"
def F_N : u_T := fun k => match k with
  | 0 => ("WeighRecorder$Line", "bytes", "[B", true)
  | _ => ("WeighRecorder$Line", "used", "I", false)
def t_N : Nat → FieldType := fun k => match k with
  | 0 => .array .byte
  | _ => .int
theorem nm_N : ∀ a, a < 2 → ∀ b, b < 2 → a ≠ b → (F_N a).2.1 ≠ (F_N b).2.1 := by decide +kernel
theorem ok_N : ∀ k, k < 2 → parseFieldDescriptor (F_N k).2.2.1 = some (t_N k) := by decide +kernel
def R_G : String := "WeighRecorder$Log"
def F_G : u_T := fun k => match k with
  | 0 => ("WeighRecorder$Log", "words", "[I", true)
  | 1 => ("WeighRecorder$Log", "recordOfTicket", "[I", true)
  | 2 => ("WeighRecorder$Log", "voidedBy", "[I", true)
  | 3 => ("WeighRecorder$Log", "records", "I", false)
  | _ => ("WeighRecorder$Log", "tickets", "I", false)
def t_G : Nat → FieldType := fun k => match k with
  | 0 => .array .int
  | 1 => .array .int
  | 2 => .array .int
  | 3 => .int
  | _ => .int
theorem nm_G : ∀ a, a < 5 → ∀ b, b < 5 → a ≠ b → (F_G a).2.1 ≠ (F_G b).2.1 := by decide +kernel
theorem ok_G : ∀ k, k < 5 → parseFieldDescriptor (F_G k).2.2.1 = some (t_G k) := by decide +kernel
def R_S : String := "WeighRecorder$Store"
def F_S : u_T := fun k => match k with
  | 0 => ("WeighRecorder$Store", "chip", "LWeighRecorder$Chip;", true)
  | 1 => ("WeighRecorder$Store", "livePages", "[I", true)
  | 2 => ("WeighRecorder$Store", "row", "[I", true)
  | 3 => ("WeighRecorder$Store", "cursor", "I", false)
  | 4 => ("WeighRecorder$Store", "serial", "I", false)
  | 5 => ("WeighRecorder$Store", "durable", "I", false)
  | _ => ("WeighRecorder$Store", "wornOut", "Z", false)
def t_S : Nat → FieldType := fun k => match k with
  | 0 => .object "WeighRecorder$Chip"
  | 1 => .array .int
  | 2 => .array .int
  | 3 => .int
  | 4 => .int
  | 5 => .int
  | _ => .boolean
theorem nm_S : ∀ a, a < 7 → ∀ b, b < 7 → a ≠ b → (F_S a).2.1 ≠ (F_S b).2.1 := by decide +kernel
theorem ok_S : ∀ k, k < 7 → parseFieldDescriptor (F_S k).2.2.1 = some (t_S k) := by decide +kernel
def R_R : String := "WeighRecorder"
def F_R : u_T := fun k => match k with
  | 0 => ("WeighRecorder", "store", "LWeighRecorder$Store;", true)
  | 1 => ("WeighRecorder", "chip", "LWeighRecorder$Chip;", true)
  | 2 => ("WeighRecorder", "log", "LWeighRecorder$Log;", true)
  | 3 => ("WeighRecorder", "line", "LWeighRecorder$Line;", true)
  | 4 => ("WeighRecorder", "active", "[Z", true)
  | 5 => ("WeighRecorder", "readings", "I", false)
  | _ => ("WeighRecorder", "readSteps", "I", false)
def t_R : Nat → FieldType := fun k => match k with
  | 0 => .object "WeighRecorder$Store"
  | 1 => .object "WeighRecorder$Chip"
  | 2 => .object "WeighRecorder$Log"
  | 3 => .object "WeighRecorder$Line"
  | 4 => .array .boolean
  | 5 => .int
  | _ => .int
theorem nm_R : ∀ a, a < 7 → ∀ b, b < 7 → a ≠ b → (F_R a).2.1 ≠ (F_R b).2.1 := by decide +kernel
theorem ok_R : ∀ k, k < 7 → parseFieldDescriptor (F_R k).2.2.1 = some (t_R k) := by decide +kernel
def R_M : String := "WeighRecorderModel"
def F_M : u_T := fun k => match k with
  | 0 => ("WeighRecorderModel", "thrown", "I", false)
  | 1 => ("WeighRecorderModel", "chip", "[I", true)
  | 2 => ("WeighRecorderModel", "wear", "[I", true)
  | 3 => ("WeighRecorderModel", "failed", "[Z", true)
  | 4 => ("WeighRecorderModel", "active", "[Z", true)
  | 5 => ("WeighRecorderModel", "on", "Z", false)
  | 6 => ("WeighRecorderModel", "cut", "I", false)
  | 7 => ("WeighRecorderModel", "records", "I", false)
  | 8 => ("WeighRecorderModel", "log", "[I", true)
  | 9 => ("WeighRecorderModel", "live", "[I", true)
  | 10 => ("WeighRecorderModel", "had", "[I", true)
  | 11 => ("WeighRecorderModel", "serial", "I", false)
  | 12 => ("WeighRecorderModel", "cursor", "I", false)
  | 13 => ("WeighRecorderModel", "readings", "I", false)
  | 14 => ("WeighRecorderModel", "weight", "I", false)
  | 15 => ("WeighRecorderModel", "worn", "Z", false)
  | 16 => ("WeighRecorderModel", "page", "[I", true)
  | 17 => ("WeighRecorderModel", "place", "I", false)
  | 18 => ("WeighRecorderModel", "sought", "I", false)
  | _ => ("WeighRecorderModel", "found", "I", false)
def t_M : Nat → FieldType := fun k => match k with
  | 0 => .int
  | 1 => .array .int
  | 2 => .array .int
  | 3 => .array .boolean
  | 4 => .array .boolean
  | 5 => .boolean
  | 6 => .int
  | 7 => .int
  | 8 => .array .int
  | 9 => .array .int
  | 10 => .array .int
  | 11 => .int
  | 12 => .int
  | 13 => .int
  | 14 => .int
  | 15 => .boolean
  | 16 => .array .int
  | 17 => .int
  | 18 => .int
  | _ => .int
theorem nm_M : ∀ a, a < 20 → ∀ b, b < 20 → a ≠ b → (F_M a).2.1 ≠ (F_M b).2.1 := by decide +kernel
theorem ok_M : ∀ k, k < 20 → parseFieldDescriptor (F_M k).2.2.1 = some (t_M k) := by decide +kernel
def R_L : String := "WeighRecorderLaw"
abbrev vwCl : List vw_C := [(R_C, F_C, 5), (R_N, F_N, 2), (R_G, F_G, 5), (R_S, F_S, 7), (R_R, F_R, 7), (R_M, F_M, 20)]
/-- the tables' good words -/
def gw : List Cond := lw_tbl.filter goodWord
theorem gw_in {w : Cond} (h : w ∈ lw_tbl) (g : goodWord w = true) : w ∈ gw := List.mem_filter.mpr ⟨h, g⟩
theorem gw_good {w : Cond} (h : w ∈ gw) : goodWord w = true := (List.mem_filter.mp h).2
theorem gw_of {w : Cond} (h : w ∈ gw) : w ∈ lw_tbl := (List.mem_filter.mp h).1
theorem tb_1 {w : Cond} (h : w ∈ tables_1_1) : w ∈ lw_tbl := List.mem_append_right _ (show w ∈ tables_1 from List.mem_append_left _ h)
theorem tb_2 {w : Cond} (h : w ∈ tables_1_2) : w ∈ lw_tbl := List.mem_append_right _ (show w ∈ tables_1 from List.mem_append_right _ (List.mem_append_left _ h))
theorem tb_3 {w : Cond} (h : w ∈ tables_1_3) : w ∈ lw_tbl := List.mem_append_right _ (show w ∈ tables_1 from List.mem_append_right _ (List.mem_append_right _ (List.mem_append_left _ h)))
theorem tb_4 {w : Cond} (h : w ∈ tables_1_4) : w ∈ lw_tbl := List.mem_append_right _ (show w ∈ tables_1 from List.mem_append_right _ (List.mem_append_right _ (List.mem_append_right _ (List.mem_append_left _ h))))
theorem tb_5 {w : Cond} (h : w ∈ tables_1_5) : w ∈ lw_tbl := List.mem_append_right _ (show w ∈ tables_1 from List.mem_append_right _ (List.mem_append_right _ (List.mem_append_right _ (List.mem_append_right _ (h)))))
theorem tb_s {q : MethodName × Nat} (h : q ∈ lw_privs) : Cond.selects q.1.cls q.1 q.1 ∈ lw_tbl := List.mem_append_left _ (List.mem_map.mpr ⟨q, h, rfl⟩)
theorem in_C : ∀ w ∈ u_ws R_C F_C 5, w ∈ gw := by
  intro w h
  obtain ⟨k, hk, rfl⟩ := List.mem_map.mp h
  have hk := List.mem_range.mp hk
  rcases (show k = 0 ∨ k = 1 ∨ k = 2 ∨ k = 3 ∨ k = 4 by omega) with rfl | rfl | rfl | rfl | rfl
  · exact gw_in (tb_1 (List.mem_of_getElem? (i := 39) rfl)) (by decide +kernel)
  · exact gw_in (tb_1 (List.mem_of_getElem? (i := 41) rfl)) (by decide +kernel)
  · exact gw_in (tb_1 (List.mem_of_getElem? (i := 43) rfl)) (by decide +kernel)
  · exact gw_in (tb_1 (List.mem_of_getElem? (i := 45) rfl)) (by decide +kernel)
  · exact gw_in (tb_1 (List.mem_of_getElem? (i := 47) rfl)) (by decide +kernel)
theorem in_N : ∀ w ∈ u_ws R_N F_N 2, w ∈ gw := by
  intro w h
  obtain ⟨k, hk, rfl⟩ := List.mem_map.mp h
  have hk := List.mem_range.mp hk
  rcases (show k = 0 ∨ k = 1 by omega) with rfl | rfl
  · exact gw_in (tb_1 (List.mem_of_getElem? (i := 108) rfl)) (by decide +kernel)
  · exact gw_in (tb_1 (List.mem_of_getElem? (i := 110) rfl)) (by decide +kernel)
theorem in_G : ∀ w ∈ u_ws R_G F_G 5, w ∈ gw := by
  intro w h
  obtain ⟨k, hk, rfl⟩ := List.mem_map.mp h
  have hk := List.mem_range.mp hk
  rcases (show k = 0 ∨ k = 1 ∨ k = 2 ∨ k = 3 ∨ k = 4 by omega) with rfl | rfl | rfl | rfl | rfl
  · exact gw_in (tb_1 (List.mem_of_getElem? (i := 89) rfl)) (by decide +kernel)
  · exact gw_in (tb_1 (List.mem_of_getElem? (i := 91) rfl)) (by decide +kernel)
  · exact gw_in (tb_1 (List.mem_of_getElem? (i := 93) rfl)) (by decide +kernel)
  · exact gw_in (tb_1 (List.mem_of_getElem? (i := 95) rfl)) (by decide +kernel)
  · exact gw_in (tb_1 (List.mem_of_getElem? (i := 97) rfl)) (by decide +kernel)
theorem in_S : ∀ w ∈ u_ws R_S F_S 7, w ∈ gw := by
  intro w h
  obtain ⟨k, hk, rfl⟩ := List.mem_map.mp h
  have hk := List.mem_range.mp hk
  rcases (show k = 0 ∨ k = 1 ∨ k = 2 ∨ k = 3 ∨ k = 4 ∨ k = 5 ∨ k = 6 by omega) with rfl | rfl | rfl | rfl | rfl | rfl | rfl
  · exact gw_in (tb_1 (List.mem_of_getElem? (i := 59) rfl)) (by decide +kernel)
  · exact gw_in (tb_1 (List.mem_of_getElem? (i := 61) rfl)) (by decide +kernel)
  · exact gw_in (tb_1 (List.mem_of_getElem? (i := 63) rfl)) (by decide +kernel)
  · exact gw_in (tb_1 (List.mem_of_getElem? (i := 65) rfl)) (by decide +kernel)
  · exact gw_in (tb_1 (List.mem_of_getElem? (i := 67) rfl)) (by decide +kernel)
  · exact gw_in (tb_1 (List.mem_of_getElem? (i := 69) rfl)) (by decide +kernel)
  · exact gw_in (tb_1 (List.mem_of_getElem? (i := 71) rfl)) (by decide +kernel)
theorem in_R : ∀ w ∈ u_ws R_R F_R 7, w ∈ gw := by
  intro w h
  obtain ⟨k, hk, rfl⟩ := List.mem_map.mp h
  have hk := List.mem_range.mp hk
  rcases (show k = 0 ∨ k = 1 ∨ k = 2 ∨ k = 3 ∨ k = 4 ∨ k = 5 ∨ k = 6 by omega) with rfl | rfl | rfl | rfl | rfl | rfl | rfl
  · exact gw_in (tb_1 (List.mem_of_getElem? (i := 121) rfl)) (by decide +kernel)
  · exact gw_in (tb_1 (List.mem_of_getElem? (i := 123) rfl)) (by decide +kernel)
  · exact gw_in (tb_1 (List.mem_of_getElem? (i := 125) rfl)) (by decide +kernel)
  · exact gw_in (tb_1 (List.mem_of_getElem? (i := 127) rfl)) (by decide +kernel)
  · exact gw_in (tb_1 (List.mem_of_getElem? (i := 129) rfl)) (by decide +kernel)
  · exact gw_in (tb_1 (List.mem_of_getElem? (i := 131) rfl)) (by decide +kernel)
  · exact gw_in (tb_1 (List.mem_of_getElem? (i := 133) rfl)) (by decide +kernel)
theorem in_M : ∀ w ∈ u_ws R_M F_M 20, w ∈ gw := by
  intro w h
  obtain ⟨k, hk, rfl⟩ := List.mem_map.mp h
  have hk := List.mem_range.mp hk
  rcases (show k = 0 ∨ k = 1 ∨ k = 2 ∨ k = 3 ∨ k = 4 ∨ k = 5 ∨ k = 6 ∨ k = 7 ∨ k = 8 ∨ k = 9 ∨ k = 10 ∨ k = 11 ∨ k = 12 ∨ k = 13 ∨ k = 14 ∨ k = 15 ∨ k = 16 ∨ k = 17 ∨ k = 18 ∨ k = 19 by omega) with rfl | rfl | rfl | rfl | rfl | rfl | rfl | rfl | rfl | rfl | rfl | rfl | rfl | rfl | rfl | rfl | rfl | rfl | rfl | rfl
  · exact gw_in (tb_4 (List.mem_of_getElem? (i := 12) rfl)) (by decide +kernel)
  · exact gw_in (tb_4 (List.mem_of_getElem? (i := 14) rfl)) (by decide +kernel)
  · exact gw_in (tb_4 (List.mem_of_getElem? (i := 16) rfl)) (by decide +kernel)
  · exact gw_in (tb_4 (List.mem_of_getElem? (i := 18) rfl)) (by decide +kernel)
  · exact gw_in (tb_4 (List.mem_of_getElem? (i := 20) rfl)) (by decide +kernel)
  · exact gw_in (tb_4 (List.mem_of_getElem? (i := 22) rfl)) (by decide +kernel)
  · exact gw_in (tb_4 (List.mem_of_getElem? (i := 24) rfl)) (by decide +kernel)
  · exact gw_in (tb_4 (List.mem_of_getElem? (i := 26) rfl)) (by decide +kernel)
  · exact gw_in (tb_4 (List.mem_of_getElem? (i := 28) rfl)) (by decide +kernel)
  · exact gw_in (tb_4 (List.mem_of_getElem? (i := 30) rfl)) (by decide +kernel)
  · exact gw_in (tb_4 (List.mem_of_getElem? (i := 32) rfl)) (by decide +kernel)
  · exact gw_in (tb_4 (List.mem_of_getElem? (i := 34) rfl)) (by decide +kernel)
  · exact gw_in (tb_4 (List.mem_of_getElem? (i := 36) rfl)) (by decide +kernel)
  · exact gw_in (tb_4 (List.mem_of_getElem? (i := 38) rfl)) (by decide +kernel)
  · exact gw_in (tb_4 (List.mem_of_getElem? (i := 40) rfl)) (by decide +kernel)
  · exact gw_in (tb_4 (List.mem_of_getElem? (i := 42) rfl)) (by decide +kernel)
  · exact gw_in (tb_4 (List.mem_of_getElem? (i := 44) rfl)) (by decide +kernel)
  · exact gw_in (tb_4 (List.mem_of_getElem? (i := 46) rfl)) (by decide +kernel)
  · exact gw_in (tb_4 (List.mem_of_getElem? (i := 48) rfl)) (by decide +kernel)
  · exact gw_in (tb_4 (List.mem_of_getElem? (i := 50) rfl)) (by decide +kernel)
theorem g_c {M y : Cond} (hy : y ∈ gw) : GoodIn (M :: gw) (y :: gw) := fun w h => (List.mem_cons.mp h).elim (fun e => by rw [e]; exact ⟨List.mem_cons_of_mem _ hy, good_of_word (gw_good hy)⟩) (fun h => ⟨List.mem_cons_of_mem _ h, good_of_word (gw_good h)⟩)
theorem g_V {M cy : Cond} {own C : String} {idx : Nat} {y : MethodName} (h1 : .methodLink own idx y ∈ gw) (h2 : .instanceMethod y ∈ gw) (h3 : .selects C y y ∈ gw) (h4 : .initialized C ∈ gw) (h5 : cy ∈ gw) : GoodIn (M :: gw) (wsV own idx C y (cy :: gw)) := by
  intro w h
  have k : ∀ {z : Cond}, z ∈ gw → z ∈ M :: gw ∧ ((z.onTables && z.keeps) = true ∨ ∃ ty, z = .arrayClass ty) := fun hz => ⟨List.mem_cons_of_mem _ hz, good_of_word (gw_good hz)⟩
  rcases List.mem_append.mp h with h | h
  · simp only [List.mem_cons, List.not_mem_nil, or_false] at h
    rcases h with rfl | rfl | rfl | rfl
    · exact k h1
    · exact k h2
    · exact k h3
    · exact k h4
  · exact g_c h5 w h
theorem g_S {M cy : Cond} {own : String} {idx : Nat} {y : MethodName} (h1 : .methodLink own idx y ∈ gw) (h2 : .static y ∈ gw) (h4 : .initialized own ∈ gw) (h5 : cy ∈ gw) : GoodIn (M :: gw) (wsS own idx y (cy :: gw)) := by
  intro w h
  have k : ∀ {z : Cond}, z ∈ gw → z ∈ M :: gw ∧ ((z.onTables && z.keeps) = true ∨ ∃ ty, z = .arrayClass ty) := fun hz => ⟨List.mem_cons_of_mem _ hz, good_of_word (gw_good hz)⟩
  rcases List.mem_append.mp h with h | h
  · simp only [List.mem_cons, List.not_mem_nil, or_false] at h
    rcases h with rfl | rfl | rfl
    · exact k h1
    · exact k h2
    · exact k h4
  · exact g_c h5 w h
end
section
/-! numbers at branches, values on the stack, what a call asks of a world -/
theorem cd_eq_t {a b : Nat} (ha : a < 2 ^ 31) (hb : b < 2 ^ 31) (h : nI a = nI b) : a = b := (nI_eq ha hb).mp h
theorem cd_eq_f {a b : Nat} (_ : a < 2 ^ 31) (_ : b < 2 ^ 31) (h : ¬ nI a = nI b) : ¬ a = b := fun q => h (by rw [q])
theorem cd_ne_t {a b : Nat} (ha : a < 2 ^ 31) (hb : b < 2 ^ 31) (h : ¬ nI a = nI b) : ¬ a = b := cd_eq_f ha hb h
theorem cd_ne_f {a b : Nat} (ha : a < 2 ^ 31) (hb : b < 2 ^ 31) (h : nI a = nI b) : a = b := cd_eq_t ha hb h
theorem cd_lt_t {a b : Nat} (ha : a < 2 ^ 31) (hb : b < 2 ^ 31) (h : nI a < nI b) : a < b := (nI_ltI ha hb).mp h
theorem cd_lt_f {a b : Nat} (ha : a < 2 ^ 31) (hb : b < 2 ^ 31) (h : ¬ nI a < nI b) : ¬ a < b := fun q => h ((nI_ltI ha hb).mpr q)
theorem cd_ge_t {a b : Nat} (ha : a < 2 ^ 31) (hb : b < 2 ^ 31) (h : nI b ≤ nI a) : b ≤ a := (nI_leI hb ha).mp h
theorem cd_ge_f {a b : Nat} (ha : a < 2 ^ 31) (hb : b < 2 ^ 31) (h : ¬ nI b ≤ nI a) : ¬ b ≤ a := fun q => h ((nI_leI hb ha).mpr q)
theorem cd_gt_t {a b : Nat} (ha : a < 2 ^ 31) (hb : b < 2 ^ 31) (h : nI b < nI a) : b < a := (nI_ltI hb ha).mp h
theorem cd_gt_f {a b : Nat} (ha : a < 2 ^ 31) (hb : b < 2 ^ 31) (h : ¬ nI b < nI a) : ¬ b < a := fun q => h ((nI_ltI hb ha).mpr q)
theorem cd_le_t {a b : Nat} (ha : a < 2 ^ 31) (hb : b < 2 ^ 31) (h : nI a ≤ nI b) : a ≤ b := (nI_leI ha hb).mp h
theorem cd_le_f {a b : Nat} (ha : a < 2 ^ 31) (hb : b < 2 ^ 31) (h : ¬ nI a ≤ nI b) : ¬ a ≤ b := fun q => h ((nI_leI ha hb).mpr q)
theorem cz_eq_t {a : Nat} (ha : a < 2 ^ 31) (h : nI a = 0) : a = 0 := cd_eq_t ha (by decide) (by rw [nI_0]; exact h)
theorem cz_eq_f {a : Nat} (_ : a < 2 ^ 31) (h : ¬ nI a = 0) : ¬ a = 0 := fun q => h (by rw [q, nI_0])
theorem cz_ne_t {a : Nat} (ha : a < 2 ^ 31) (h : ¬ nI a = 0) : ¬ a = 0 := cz_eq_f ha h
theorem cz_ne_f {a : Nat} (ha : a < 2 ^ 31) (h : nI a = 0) : a = 0 := cz_eq_t ha h
theorem cz_lt_t {a : Nat} (ha : a < 2 ^ 31) (h : nI a < 0) : False := nI_pos ha h
theorem cz_lt_f {a : Nat} (_ : a < 2 ^ 31) (_ : ¬ nI a < 0) : True := trivial
theorem cz_ge_t {a : Nat} (_ : a < 2 ^ 31) (_ : 0 ≤ nI a) : True := trivial
theorem cz_ge_f {a : Nat} (ha : a < 2 ^ 31) (h : ¬ 0 ≤ nI a) : False := h (nI_pos' ha)
theorem cz_gt_t {a : Nat} (ha : a < 2 ^ 31) (h : 0 < nI a) : 0 < a := cd_lt_t (by decide) ha (by rw [nI_0]; exact h)
theorem cz_gt_f {a : Nat} (ha : a < 2 ^ 31) (h : ¬ 0 < nI a) : a = 0 := by
  have := cd_lt_f (a := 0) (by decide) ha (by rw [nI_0]; exact h)
  omega
theorem cz_le_t {a : Nat} (ha : a < 2 ^ 31) (h : nI a ≤ 0) : a = 0 := by
  have := cd_le_t (b := 0) ha (by decide) (by rw [nI_0]; exact h)
  omega
theorem cz_le_f {a : Nat} (ha : a < 2 ^ 31) (h : ¬ nI a ≤ 0) : 0 < a := by
  have := cd_le_f (b := 0) ha (by decide) (by rw [nI_0]; exact h)
  omega
section TP
variable {p : Program} {l : Launch} {e : Env} {R : Room} {s : State} {m : MethodId} {args : Array Value} {below : List Frame} {meth : Method} {c : Code} {H : Heap} {locs : List Loc} {cells slots : Nat} {Q : State → Prop} {pc : Nat} {ls : Array Slot} {rest : List Value}
theorem tp_i {x y : Int32} (h : x = y) (k : W p l e R s m args below meth c H locs cells slots Q (F0 m pc ls (.int y :: rest))) : W p l e R s m args below meth c H locs cells slots Q (F0 m pc ls (.int x :: rest)) := h ▸ k
theorem tp_l {x y : Int64} (h : x = y) (k : W p l e R s m args below meth c H locs cells slots Q (F0 m pc ls (.long y :: rest))) : W p l e R s m args below meth c H locs cells slots Q (F0 m pc ls (.long x :: rest)) := h ▸ k
end TP
/-- a reader's start: the world and the tables -/
def xR (D : va_G) (cl : List vw_C) (tys : List (ClassId × FieldType)) (ws : va_W) (av : List Value) : Array Value → State → Prop := va_Pc av (fun U => va_P D cl ws U.heap ∧ va_K D cl tys U)
/-- a writer's start: and the cells are apart -/
def xP (D : va_G) (cl : List vw_C) (tys : List (ClassId × FieldType)) (ws : va_W) (sz : Nat) (av : List Value) : Array Value → State → Prop := va_Pc av (fun U => U.heap.size = sz ∧ va_P D cl ws U.heap ∧ va_K D cl tys U ∧ va_D (fun _ => True) ws)
/-- a writer's end -/
def xB (D : va_G) (cl : List vw_C) (tys : List (ClassId × FieldType)) (A : Nat → Prop) (ws : va_W) (t : State) : Prop := va_P D cl ws t.heap ∧ va_K D cl tys t ∧ va_D A ws
theorem xR_blind {D : va_G} {cl : List vw_C} {tys : List (ClassId × FieldType)} {ws : va_W} {av : List Value} : FrameBlind (xR D cl tys ws av) := fun a U g mk q => by
  obtain ⟨q0, qP, qK⟩ := q
  exact ⟨q0, qP, va_K.moved (u := U) (U := U.calling g mk a) (Vm.Alike.refl U.vm) qK⟩
theorem xP_blind {D : va_G} {cl : List vw_C} {tys : List (ClassId × FieldType)} {ws : va_W} {sz : Nat} {av : List Value} : FrameBlind (xP D cl tys ws sz av) := fun a U g mk q => by
  obtain ⟨q0, q1, qP, qK, qD⟩ := q
  exact ⟨q0, q1, qP, va_K.moved (u := U) (U := U.calling g mk a) (Vm.Alike.refl U.vm) qK, qD⟩
theorem xR_v {s : State} {H : Heap} {D : va_G} {cl : List vw_C} {tys : List (ClassId × FieldType)} {ws : va_W} {As : List Value} {b ci : Nat} {fs : List Value} {q : vw_C} (hP : va_P D cl ws H) (hK : va_K D cl tys s) (k : Nat) (he : ws[k]? = some (b, .inr (ci, fs))) (hc : cl[ci]? = some q) : PreV s H q.1 b (xR D cl tys ws (.ref b :: As)) As :=
  ⟨xR_blind, va_recv hK hP hc he, fun U hU hW => ⟨rfl, by rw [hU]; exact hP, va_K.moved hW.alike hK⟩⟩
theorem xR_s {s : State} {H : Heap} {D : va_G} {cl : List vw_C} {tys : List (ClassId × FieldType)} {ws : va_W} {As : List Value} (hP : va_P D cl ws H) (hK : va_K D cl tys s) : PreS s H (xR D cl tys ws As) As :=
  ⟨xR_blind, fun U hU hW => ⟨rfl, by rw [hU]; exact hP, va_K.moved hW.alike hK⟩⟩
theorem xP_v {s : State} {H : Heap} {D : va_G} {cl : List vw_C} {tys : List (ClassId × FieldType)} {A : Nat → Prop} {ws : va_W} {As : List Value} {b ci : Nat} {fs : List Value} {q : vw_C} (hP : va_P D cl ws H) (hK : va_K D cl tys s) (hD : va_D A ws) (k : Nat) (he : ws[k]? = some (b, .inr (ci, fs))) (hc : cl[ci]? = some q) : PreV s H q.1 b (xP D cl tys ws H.size (.ref b :: As)) As :=
  ⟨xP_blind, va_recv hK hP hc he, fun U hU hW => ⟨rfl, by rw [hU], by rw [hU]; exact hP, va_K.moved hW.alike hK, hD.weaken (fun _ _ _ _ => trivial)⟩⟩
theorem xP_s {s : State} {H : Heap} {D : va_G} {cl : List vw_C} {tys : List (ClassId × FieldType)} {A : Nat → Prop} {ws : va_W} {As : List Value} (hP : va_P D cl ws H) (hK : va_K D cl tys s) (hD : va_D A ws) : PreS s H (xP D cl tys ws H.size As) As :=
  ⟨xP_blind, fun U hU hW => ⟨rfl, by rw [hU], by rw [hU]; exact hP, va_K.moved hW.alike hK, hD.weaken (fun _ _ _ _ => trivial)⟩⟩
/-- what a method of n cells may change -/
def xA (n : Nat) (ad : Nat → Nat) (sz : Nat) : Nat → Prop := fun q => (∃ k, k < n ∧ q = ad k) ∨ sz ≤ q
theorem xA_up {n : Nat} {ad : Nat → Nat} {a b : Nat} (h : a ≤ b) : ∀ q, xA n ad b q → xA n ad a q := fun q hq => hq.elim Or.inl (fun z => Or.inr (Nat.le_trans h z))
end
section
/-- the recorder's fifteen cells -/
def xw (ad cd : Nat → Nat) (w wr fl : Nat → Int32) (pw sc : Int32) (lw rot vb : Nat → Int32) (rec tk : Int32) (live row : Nat → Int32) (cur ser dur wo : Int32) (bts : Nat → Int32) (us : Int32) (act : Nat → Int32) (rd rs : Int32) : va_W := [(ad 0, .inr (4, [.ref (ad 1), .ref (ad 2), .ref (ad 3), .ref (ad 4), .ref (ad 5), .int rd, .int rs])), (ad 1, .inr (3, [.ref (ad 2), .ref (ad 6), .ref (ad 7), .int cur, .int ser, .int dur, .int wo])), (ad 2, .inr (0, [.ref (ad 8), .ref (ad 9), .ref (ad 10), .int pw, .int sc])), (ad 3, .inr (2, [.ref (ad 11), .ref (ad 12), .ref (ad 13), .int rec, .int tk])), (ad 4, .inr (1, [.ref (ad 14), .int us])), (ad 5, .inl (cd 5, 40, .inl act)), (ad 6, .inl (cd 6, 16, .inl live)), (ad 7, .inl (cd 7, 16, .inl row)), (ad 8, .inl (cd 8, 512, .inl w)), (ad 9, .inl (cd 9, 8, .inl wr)), (ad 10, .inl (cd 10, 8, .inl fl)), (ad 11, .inl (cd 11, 192, .inl lw)), (ad 12, .inl (cd 12, 48, .inl rot)), (ad 13, .inl (cd 13, 48, .inl vb)), (ad 14, .inl (cd 14, 32, .inl bts))]
def xt (cd : Nat → Nat) : List (ClassId × FieldType) := [(cd 5, .boolean), (cd 6, .int), (cd 7, .int), (cd 8, .int), (cd 9, .int), (cd 10, .boolean), (cd 11, .int), (cd 12, .int), (cd 13, .int), (cd 14, .byte)]
/-- the reference's nine cells -/
def mw_ (am cm : Nat → Nat) (th : Int32) (mw mwr mfl mact : Nat → Int32) (on cut mrec : Int32) (mlog mlive had : Nat → Int32) (mser mcur mrd mwt worn : Int32) (pg : Nat → Int32) (pla sou fou : Int32) : va_W := [(am 0, .inr (5, [.int th, .ref (am 1), .ref (am 2), .ref (am 3), .ref (am 4), .int on, .int cut, .int mrec, .ref (am 5), .ref (am 6), .ref (am 7), .int mser, .int mcur, .int mrd, .int mwt, .int worn, .ref (am 8), .int pla, .int sou, .int fou])), (am 1, .inl (cm 1, 512, .inl mw)), (am 2, .inl (cm 2, 8, .inl mwr)), (am 3, .inl (cm 3, 8, .inl mfl)), (am 4, .inl (cm 4, 40, .inl mact)), (am 5, .inl (cm 5, 192, .inl mlog)), (am 6, .inl (cm 6, 16, .inl mlive)), (am 7, .inl (cm 7, 16, .inl had)), (am 8, .inl (cm 8, 16, .inl pg))]
def mt (cm : Nat → Nat) : List (ClassId × FieldType) := [(cm 1, .int), (cm 2, .int), (cm 3, .boolean), (cm 4, .boolean), (cm 5, .int), (cm 6, .int), (cm 7, .int), (cm 8, .int)]
theorem xw_D {B : Nat → Prop} {ad cd : Nat → Nat} {sz : Nat} {w wr fl : Nat → Int32} {pw sc : Int32} {lw rot vb : Nat → Int32} {rec tk : Int32} {live row : Nat → Int32} {cur ser dur wo : Int32} {bts : Nat → Int32} {us : Int32} {act : Nat → Int32} {rd rs : Int32} (h : va_D B (xw ad cd w wr fl pw sc lw rot vb rec tk live row cur ser dur wo bts us act rd rs)) : va_D (xA 15 ad sz) (xw ad cd w wr fl pw sc lw rot vb rec tk live row cur ser dur wo bts us act rd rs) := by
  refine ⟨h.1, fun k q hk => ?_⟩
  have hl : k < 15 := (List.getElem?_eq_some_iff.mp hk).1
  rcases (show k = 0 ∨ k = 1 ∨ k = 2 ∨ k = 3 ∨ k = 4 ∨ k = 5 ∨ k = 6 ∨ k = 7 ∨ k = 8 ∨ k = 9 ∨ k = 10 ∨ k = 11 ∨ k = 12 ∨ k = 13 ∨ k = 14 by omega) with rfl | rfl | rfl | rfl | rfl | rfl | rfl | rfl | rfl | rfl | rfl | rfl | rfl | rfl | rfl <;> (cases hk; exact Or.inl ⟨_, hl, rfl⟩)
theorem xw_J {A : Nat → Prop} {B : Nat → Prop} {ad cd : Nat → Nat} {w wr fl : Nat → Int32} {pw sc : Int32} {lw rot vb : Nat → Int32} {rec tk : Int32} {live row : Nat → Int32} {cur ser dur wo : Int32} {bts : Nat → Int32} {us : Int32} {act : Nat → Int32} {rd rs : Int32} (h : va_D B (xw ad cd w wr fl pw sc lw rot vb rec tk live row cur ser dur wo bts us act rd rs)) (hA : ∀ k, k < 15 → A (ad k)) : va_D A (xw ad cd w wr fl pw sc lw rot vb rec tk live row cur ser dur wo bts us act rd rs) := by
  refine ⟨h.1, fun k q hk => ?_⟩
  have hl : k < 15 := (List.getElem?_eq_some_iff.mp hk).1
  rcases (show k = 0 ∨ k = 1 ∨ k = 2 ∨ k = 3 ∨ k = 4 ∨ k = 5 ∨ k = 6 ∨ k = 7 ∨ k = 8 ∨ k = 9 ∨ k = 10 ∨ k = 11 ∨ k = 12 ∨ k = 13 ∨ k = 14 by omega) with rfl | rfl | rfl | rfl | rfl | rfl | rfl | rfl | rfl | rfl | rfl | rfl | rfl | rfl | rfl <;> (cases hk; exact hA _ hl)
theorem mw_D {B : Nat → Prop} {am cm : Nat → Nat} {sz : Nat} {th : Int32} {mw mwr mfl mact : Nat → Int32} {on cut mrec : Int32} {mlog mlive had : Nat → Int32} {mser mcur mrd mwt worn : Int32} {pg : Nat → Int32} {pla sou fou : Int32} (h : va_D B (mw_ am cm th mw mwr mfl mact on cut mrec mlog mlive had mser mcur mrd mwt worn pg pla sou fou)) : va_D (xA 9 am sz) (mw_ am cm th mw mwr mfl mact on cut mrec mlog mlive had mser mcur mrd mwt worn pg pla sou fou) := by
  refine ⟨h.1, fun k q hk => ?_⟩
  have hl : k < 9 := (List.getElem?_eq_some_iff.mp hk).1
  rcases (show k = 0 ∨ k = 1 ∨ k = 2 ∨ k = 3 ∨ k = 4 ∨ k = 5 ∨ k = 6 ∨ k = 7 ∨ k = 8 by omega) with rfl | rfl | rfl | rfl | rfl | rfl | rfl | rfl | rfl <;> (cases hk; exact Or.inl ⟨_, hl, rfl⟩)
theorem mw_J {A : Nat → Prop} {B : Nat → Prop} {am cm : Nat → Nat} {th : Int32} {mw mwr mfl mact : Nat → Int32} {on cut mrec : Int32} {mlog mlive had : Nat → Int32} {mser mcur mrd mwt worn : Int32} {pg : Nat → Int32} {pla sou fou : Int32} (h : va_D B (mw_ am cm th mw mwr mfl mact on cut mrec mlog mlive had mser mcur mrd mwt worn pg pla sou fou)) (hA : ∀ k, k < 9 → A (am k)) : va_D A (mw_ am cm th mw mwr mfl mact on cut mrec mlog mlive had mser mcur mrd mwt worn pg pla sou fou) := by
  refine ⟨h.1, fun k q hk => ?_⟩
  have hl : k < 9 := (List.getElem?_eq_some_iff.mp hk).1
  rcases (show k = 0 ∨ k = 1 ∨ k = 2 ∨ k = 3 ∨ k = 4 ∨ k = 5 ∨ k = 6 ∨ k = 7 ∨ k = 8 by omega) with rfl | rfl | rfl | rfl | rfl | rfl | rfl | rfl | rfl <;> (cases hk; exact hA _ hl)
/-- a free page -/
def fp (w : Nat → Int32) (p : Nat) : Prop := ∀ i, i < 16 → w (16 * p + i) = -1
theorem m1_ne {n : Nat} (h : n < 2 ^ 31) : nI n ≠ -1 := fun q => by
  have h1 : (nI n).toInt = (-1 : Int32).toInt := by rw [q]
  rw [nI_toInt h] at h1
  have h2 : (-1 : Int32).toInt = -1 := by decide
  omega
theorem upd_lt {f : Nat → Int32} {k : Nat} {v : Int32} (h : ∀ i, i < k → f i = v) : ∀ i, i < k + 1 → upd f k v i = v := fun i hi => by
  by_cases e : i = k
  · rw [e]; exact pk_us
  · rw [pk_un e]; exact h i (by omega)
theorem upd_all {f : Nat → Int32} {k n : Nat} {v : Int32} (h : ∀ i, i < n → f i = v) : ∀ i, i < n → upd f k v i = v := fun i hi => by
  by_cases e : i = k
  · rw [e]; exact pk_us
  · rw [pk_un e]; exact h i hi
theorem sw_in (x : Int32) (n : Nat) (hn : n < 2 ^ 31 := by decide) : (x.toInt < 0 ∨ (n : Int) < x.toInt) ∨ ∃ j : Nat, j ≤ n ∧ x = nI j := by
  by_cases h : x.toInt < 0 ∨ (n : Int) < x.toInt
  · exact Or.inl h
  · refine Or.inr ⟨x.toInt.toNat, by omega, Int32.toInt_inj.mp ?_⟩
    rw [nI_toInt (by omega)]
    omega
end
section
abbrev b_C_isPowered : ByteArray := prog_2_method_2_code
def y_C_isPowered : MethodName := ⟨R_C, "isPowered", "()Z"⟩
def w_C_isPowered : List Cond := .code y_C_isPowered b_C_isPowered 1 (some (.boolean)) :: gw
abbrev b_C_read : ByteArray := prog_2_method_6_code
def y_C_read : MethodName := ⟨R_C, "read", "(II)I"⟩
def w_C_read : List Cond := .code y_C_read b_C_read 3 (some (.int)) :: gw
abbrev b_C_wearAt : ByteArray := prog_2_method_8_code
def y_C_wearAt : MethodName := ⟨R_C, "wearAt", "(I)I"⟩
def w_C_wearAt : List Cond := .code y_C_wearAt b_C_wearAt 2 (some (.int)) :: gw
abbrev b_C_isFree : ByteArray := prog_2_method_14_code
def y_C_isFree : MethodName := ⟨R_C, "isFree", "(I)Z"⟩
def w_C_isFree : List Cond := .code y_C_isFree b_C_isFree 4 (some (.boolean)) :: gw
abbrev b_C_isRight : ByteArray := prog_2_method_15_code
def y_C_isRight : MethodName := ⟨R_C, "isRight", "(I)Z"⟩
def w_C_isRight : List Cond := .code y_C_isRight b_C_isRight 3 (some (.boolean)) :: gw
abbrev b_C_freePagesOf : ByteArray := prog_2_method_19_code
def y_C_freePagesOf : MethodName := ⟨R_C, "freePagesOf", "(I)I"⟩
def w_C_freePagesOf : List Cond := .code y_C_freePagesOf b_C_freePagesOf 4 (some (.int)) :: gw
abbrev b_C_usableFreePages : ByteArray := prog_2_method_20_code
def y_C_usableFreePages : MethodName := ⟨R_C, "usableFreePages", "()I"⟩
def w_C_usableFreePages : List Cond := .code y_C_usableFreePages b_C_usableFreePages 3 (some (.int)) :: gw
abbrev b_C_turnOff : ByteArray := prog_2_method_3_code
def y_C_turnOff : MethodName := ⟨R_C, "turnOff", "()V"⟩
def w_C_turnOff : List Cond := .code y_C_turnOff b_C_turnOff 1 none :: gw
abbrev b_C_turnOn : ByteArray := prog_2_method_4_code
def y_C_turnOn : MethodName := ⟨R_C, "turnOn", "()V"⟩
def w_C_turnOn : List Cond := .code y_C_turnOn b_C_turnOn 1 none :: gw
abbrev b_C_tellCut : ByteArray := prog_2_method_5_code
def y_C_tellCut : MethodName := ⟨R_C, "tellCut", "(I)V"⟩
def w_C_tellCut : List Cond := .code y_C_tellCut b_C_tellCut 2 none :: gw
abbrev b_C_flip : ByteArray := prog_2_method_7_code
def y_C_flip : MethodName := ⟨R_C, "flip", "(III)V"⟩
def w_C_flip : List Cond := .code y_C_flip b_C_flip 4 none :: gw
abbrev b_C_markFailed : ByteArray := prog_2_method_9_code
def y_C_markFailed : MethodName := ⟨R_C, "markFailed", "(I)V"⟩
def w_C_markFailed : List Cond := .code y_C_markFailed b_C_markFailed 2 none :: gw
abbrev b_G_recordCount : ByteArray := prog_4_method_3_code
def y_G_recordCount : MethodName := ⟨R_G, "recordCount", "()I"⟩
def w_G_recordCount : List Cond := .code y_G_recordCount b_G_recordCount 1 (some (.int)) :: gw
abbrev b_G_ticketCount : ByteArray := prog_4_method_4_code
def y_G_ticketCount : MethodName := ⟨R_G, "ticketCount", "()I"⟩
def w_G_ticketCount : List Cond := .code y_G_ticketCount b_G_ticketCount 1 (some (.int)) :: gw
abbrev b_G_hasTicket : ByteArray := prog_4_method_11_code
def y_G_hasTicket : MethodName := ⟨R_G, "hasTicket", "(I)Z"⟩
def w_G_hasTicket : List Cond := .code y_G_hasTicket b_G_hasTicket 2 (some (.boolean)) :: gw
abbrev b_G_empty : ByteArray := prog_4_method_2_code
def y_G_empty : MethodName := ⟨R_G, "empty", "()V"⟩
def w_G_empty : List Cond := .code y_G_empty b_G_empty 1 none :: gw
abbrev b_S_durableCount : ByteArray := prog_5_method_4_code
def y_S_durableCount : MethodName := ⟨R_S, "durableCount", "()I"⟩
def w_S_durableCount : List Cond := .code y_S_durableCount b_S_durableCount 1 (some (.int)) :: gw
abbrev b_S_latestSerial : ByteArray := prog_5_method_5_code
def y_S_latestSerial : MethodName := ⟨R_S, "latestSerial", "()I"⟩
def w_S_latestSerial : List Cond := .code y_S_latestSerial b_S_latestSerial 1 (some (.int)) :: gw
abbrev b_S_cursorBlock : ByteArray := prog_5_method_6_code
def y_S_cursorBlock : MethodName := ⟨R_S, "cursorBlock", "()I"⟩
def w_S_cursorBlock : List Cond := .code y_S_cursorBlock b_S_cursorBlock 1 (some (.int)) :: gw
abbrev b_S_isLive : ByteArray := prog_5_method_8_code
def y_S_isLive : MethodName := ⟨R_S, "isLive", "(I)Z"⟩
def w_S_isLive : List Cond := .code y_S_isLive b_S_isLive 3 (some (.boolean)) :: gw
abbrev b_S_livePageCount : ByteArray := prog_5_method_7_code
def y_S_livePageCount : MethodName := ⟨R_S, "livePageCount", "()I"⟩
def w_S_livePageCount : List Cond := .code y_S_livePageCount b_S_livePageCount 3 (some (.int)) :: gw
abbrev b_S_findNewestPages : ByteArray := prog_5_method_20_code
def y_S_findNewestPages : MethodName := ⟨R_S, "findNewestPages", "()I"⟩
def w_S_findNewestPages : List Cond := .code y_S_findNewestPages b_S_findNewestPages 4 (some (.int)) :: gw
abbrev b_S_restore : ByteArray := prog_5_method_19_code
def y_S_restore : MethodName := ⟨R_S, "restore", "(LWeighRecorder$Log;)V"⟩
def w_S_restore : List Cond := .code y_S_restore b_S_restore 5 none :: gw
abbrev b_R_forgetReadings : ByteArray := prog_1_method_22_code
def y_R_forgetReadings : MethodName := ⟨R_R, "forgetReadings", "()V"⟩
def w_R_forgetReadings : List Cond := .code y_R_forgetReadings b_R_forgetReadings 1 none :: gw
abbrev b_R_crash : ByteArray := prog_1_method_14_code
def y_R_crash : MethodName := ⟨R_R, "crash", "()V"⟩
def w_R_crash : List Cond := .code y_R_crash b_R_crash 1 none :: gw
abbrev b_R_mount : ByteArray := prog_1_method_15_code
def y_R_mount : MethodName := ⟨R_R, "mount", "()I"⟩
def w_R_mount : List Cond := .code y_R_mount b_R_mount 1 (some (.int)) :: gw
abbrev b_M_thrown : ByteArray := prog_7_method_2_code
def y_M_thrown : MethodName := ⟨R_M, "thrown", "()I"⟩
def w_M_thrown : List Cond := .code y_M_thrown b_M_thrown 1 (some (.int)) :: gw
abbrev b_M_isIn : ByteArray := prog_7_method_4_code
def y_M_isIn : MethodName := ⟨R_M, "isIn", "(III)Z"⟩
def w_M_isIn : List Cond := .code y_M_isIn b_M_isIn 3 (some (.boolean)) :: gw
abbrev b_R_isWithin : ByteArray := prog_1_method_23_code
def y_R_isWithin : MethodName := ⟨R_R, "isWithin", "(III)Z"⟩
def w_R_isWithin : List Cond := .code y_R_isWithin b_R_isWithin 3 (some (.boolean)) :: gw
abbrev b_M_fails : ByteArray := prog_7_method_3_code
def y_M_fails : MethodName := ⟨R_M, "fails", "(IZ)Z"⟩
def w_M_fails : List Cond := .code y_M_fails b_M_fails 3 (some (.boolean)) :: gw
abbrev b_M_forget : ByteArray := prog_7_method_5_code
def y_M_forget : MethodName := ⟨R_M, "forget", "()V"⟩
def w_M_forget : List Cond := .code y_M_forget b_M_forget 2 none :: gw
abbrev b_M_off : ByteArray := prog_7_method_6_code
def y_M_off : MethodName := ⟨R_M, "off", "()V"⟩
def w_M_off : List Cond := .code y_M_off b_M_off 1 none :: gw
abbrev b_M_isFree : ByteArray := prog_7_method_10_code
def y_M_isFree : MethodName := ⟨R_M, "isFree", "(I)Z"⟩
def w_M_isFree : List Cond := .code y_M_isFree b_M_isFree 4 (some (.boolean)) :: gw
abbrev b_M_isRight : ByteArray := prog_7_method_11_code
def y_M_isRight : MethodName := ⟨R_M, "isRight", "(I)Z"⟩
def w_M_isRight : List Cond := .code y_M_isRight b_M_isRight 3 (some (.boolean)) :: gw
abbrev b_M_placeOf : ByteArray := prog_7_method_25_code
def y_M_placeOf : MethodName := ⟨R_M, "placeOf", "(I)I"⟩
def w_M_placeOf : List Cond := .code y_M_placeOf b_M_placeOf 4 (some (.int)) :: gw
abbrev b_M_tickets : ByteArray := prog_7_method_26_code
def y_M_tickets : MethodName := ⟨R_M, "tickets", "()I"⟩
def w_M_tickets : List Cond := .code y_M_tickets b_M_tickets 3 (some (.int)) :: gw
abbrev b_M_durable : ByteArray := prog_7_method_28_code
def y_M_durable : MethodName := ⟨R_M, "durable", "()I"⟩
def w_M_durable : List Cond := .code y_M_durable b_M_durable 3 (some (.int)) :: gw
abbrev b_M_liveCount : ByteArray := prog_7_method_55_code
def y_M_liveCount : MethodName := ⟨R_M, "liveCount", "()I"⟩
def w_M_liveCount : List Cond := .code y_M_liveCount b_M_liveCount 3 (some (.int)) :: gw
abbrev b_M_freePages : ByteArray := prog_7_method_56_code
def y_M_freePages : MethodName := ⟨R_M, "freePages", "()I"⟩
def w_M_freePages : List Cond := .code y_M_freePages b_M_freePages 3 (some (.int)) :: gw
abbrev b_M_latest : ByteArray := prog_7_method_48_code
def y_M_latest : MethodName := ⟨R_M, "latest", "(I)I"⟩
def w_M_latest : List Cond := .code y_M_latest b_M_latest 4 (some (.int)) :: gw
abbrev b_M_axle : ByteArray := prog_7_method_30_code
def y_M_axle : MethodName := ⟨R_M, "axle", "(I)I"⟩
def w_M_axle : List Cond := .code y_M_axle b_M_axle 2 (some (.int)) :: gw
abbrev b_M_close : ByteArray := prog_7_method_31_code
def y_M_close : MethodName := ⟨R_M, "close", "(IIII)I"⟩
def w_M_close : List Cond := .code y_M_close b_M_close 7 (some (.int)) :: gw
abbrev b_M_annul : ByteArray := prog_7_method_32_code
def y_M_annul : MethodName := ⟨R_M, "annul", "(II)I"⟩
def w_M_annul : List Cond := .code y_M_annul b_M_annul 4 (some (.int)) :: gw
abbrev b_M_sync : ByteArray := prog_7_method_33_code
def y_M_sync : MethodName := ⟨R_M, "sync", "()I"⟩
def w_M_sync : List Cond := .code y_M_sync b_M_sync 3 (some (.int)) :: gw
abbrev b_M_ticket : ByteArray := prog_7_method_34_code
def y_M_ticket : MethodName := ⟨R_M, "ticket", "(II)I"⟩
def w_M_ticket : List Cond := .code y_M_ticket b_M_ticket 4 (some (.int)) :: gw
abbrev b_M_dayTotal : ByteArray := prog_7_method_36_code
def y_M_dayTotal : MethodName := ⟨R_M, "dayTotal", "(II)J"⟩
def w_M_dayTotal : List Cond := .code y_M_dayTotal b_M_dayTotal 7 (some (.long)) :: gw
abbrev b_M_rangeTotal : ByteArray := prog_7_method_37_code
def y_M_rangeTotal : MethodName := ⟨R_M, "rangeTotal", "(II)J"⟩
def w_M_rangeTotal : List Cond := .code y_M_rangeTotal b_M_rangeTotal 6 (some (.long)) :: gw
abbrev b_M_find : ByteArray := prog_7_method_38_code
def y_M_find : MethodName := ⟨R_M, "find", "(II)I"⟩
def w_M_find : List Cond := .code y_M_find b_M_find 4 (some (.int)) :: gw
abbrev b_M_audit : ByteArray := prog_7_method_41_code
def y_M_audit : MethodName := ⟨R_M, "audit", "(II)I"⟩
def w_M_audit : List Cond := .code y_M_audit b_M_audit 4 (some (.int)) :: gw
abbrev b_M_exportByte : ByteArray := prog_7_method_44_code
def y_M_exportByte : MethodName := ⟨R_M, "exportByte", "(III)I"⟩
def w_M_exportByte : List Cond := .code y_M_exportByte b_M_exportByte 6 (some (.int)) :: gw
theorem t_37 : (.fieldLink R_C 22 R_C "powered" "Z" : Cond) ∈ gw := gw_in (tb_1 (List.mem_of_getElem? (i := 37) rfl)) (by first | rfl | decide +kernel)
theorem t_34 : (.fieldLink R_C 9 R_C "words" "[I" : Cond) ∈ gw := gw_in (tb_1 (List.mem_of_getElem? (i := 34) rfl)) (by first | rfl | decide +kernel)
theorem t_35 : (.fieldLink R_C 15 R_C "wear" "[I" : Cond) ∈ gw := gw_in (tb_1 (List.mem_of_getElem? (i := 35) rfl)) (by first | rfl | decide +kernel)
theorem t_164 : (.methodLink R_C 34 y_C_read : Cond) ∈ gw := gw_in (tb_1 (List.mem_of_getElem? (i := 164) rfl)) (by first | rfl | decide +kernel)
theorem t_167 : (.code y_C_read b_C_read 3 (some (.int)) : Cond) ∈ gw := gw_in (tb_1 (List.mem_of_getElem? (i := 167) rfl)) (by first | rfl | decide +kernel)
theorem t_165 : (.instanceMethod y_C_read : Cond) ∈ gw := gw_in (tb_1 (List.mem_of_getElem? (i := 165) rfl)) (by first | rfl | decide +kernel)
theorem t_166 : (.selects R_C y_C_read y_C_read : Cond) ∈ gw := gw_in (tb_1 (List.mem_of_getElem? (i := 166) rfl)) (by first | rfl | decide +kernel)
theorem t_3 : (.initialized R_C : Cond) ∈ gw := gw_in (tb_1 (List.mem_of_getElem? (i := 3) rfl)) (by first | rfl | decide +kernel)
theorem t_258 : (.methodLink R_C 43 y_C_isFree : Cond) ∈ gw := gw_in (tb_2 (List.mem_of_getElem? (i := 18) rfl)) (by first | rfl | decide +kernel)
theorem t_261 : (.code y_C_isFree b_C_isFree 4 (some (.boolean)) : Cond) ∈ gw := gw_in (tb_2 (List.mem_of_getElem? (i := 21) rfl)) (by first | rfl | decide +kernel)
theorem t_259 : (.instanceMethod y_C_isFree : Cond) ∈ gw := gw_in (tb_2 (List.mem_of_getElem? (i := 19) rfl)) (by first | rfl | decide +kernel)
theorem t_260 : (.selects R_C y_C_isFree y_C_isFree : Cond) ∈ gw := gw_in (tb_2 (List.mem_of_getElem? (i := 20) rfl)) (by first | rfl | decide +kernel)
theorem t_36 : (.fieldLink R_C 18 R_C "failed" "[Z" : Cond) ∈ gw := gw_in (tb_1 (List.mem_of_getElem? (i := 36) rfl)) (by first | rfl | decide +kernel)
theorem t_254 : (.methodLink R_C 47 y_C_freePagesOf : Cond) ∈ gw := gw_in (tb_2 (List.mem_of_getElem? (i := 14) rfl)) (by first | rfl | decide +kernel)
theorem t_257 : (.code y_C_freePagesOf b_C_freePagesOf 4 (some (.int)) : Cond) ∈ gw := gw_in (tb_2 (List.mem_of_getElem? (i := 17) rfl)) (by first | rfl | decide +kernel)
theorem t_255 : (.instanceMethod y_C_freePagesOf : Cond) ∈ gw := gw_in (tb_2 (List.mem_of_getElem? (i := 15) rfl)) (by first | rfl | decide +kernel)
theorem t_256 : (.selects R_C y_C_freePagesOf y_C_freePagesOf : Cond) ∈ gw := gw_in (tb_2 (List.mem_of_getElem? (i := 16) rfl)) (by first | rfl | decide +kernel)
theorem t_38 : (.fieldLink R_C 26 R_C "stepsToCut" "I" : Cond) ∈ gw := gw_in (tb_1 (List.mem_of_getElem? (i := 38) rfl)) (by first | rfl | decide +kernel)
theorem t_87 : (.fieldLink R_G 21 R_G "records" "I" : Cond) ∈ gw := gw_in (tb_1 (List.mem_of_getElem? (i := 87) rfl)) (by first | rfl | decide +kernel)
theorem t_88 : (.fieldLink R_G 25 R_G "tickets" "I" : Cond) ∈ gw := gw_in (tb_1 (List.mem_of_getElem? (i := 88) rfl)) (by first | rfl | decide +kernel)
theorem t_57 : (.fieldLink R_S 32 R_S "durable" "I" : Cond) ∈ gw := gw_in (tb_1 (List.mem_of_getElem? (i := 57) rfl)) (by first | rfl | decide +kernel)
theorem t_56 : (.fieldLink R_S 29 R_S "serial" "I" : Cond) ∈ gw := gw_in (tb_1 (List.mem_of_getElem? (i := 56) rfl)) (by first | rfl | decide +kernel)
theorem t_55 : (.fieldLink R_S 25 R_S "cursor" "I" : Cond) ∈ gw := gw_in (tb_1 (List.mem_of_getElem? (i := 55) rfl)) (by first | rfl | decide +kernel)
theorem t_53 : (.fieldLink R_S 18 R_S "livePages" "[I" : Cond) ∈ gw := gw_in (tb_1 (List.mem_of_getElem? (i := 53) rfl)) (by first | rfl | decide +kernel)
theorem t_238 : (.methodLink R_S 39 y_S_isLive : Cond) ∈ gw := gw_in (tb_1 (List.mem_of_getElem? (i := 238) rfl)) (by first | rfl | decide +kernel)
theorem t_241 : (.code y_S_isLive b_S_isLive 3 (some (.boolean)) : Cond) ∈ gw := gw_in (tb_2 (List.mem_of_getElem? (i := 1) rfl)) (by first | rfl | decide +kernel)
theorem t_240 : (.instanceMethod y_S_isLive : Cond) ∈ gw := gw_in (tb_2 (List.mem_of_getElem? (i := 0) rfl)) (by first | rfl | decide +kernel)
theorem t_2 : (.initialized R_S : Cond) ∈ gw := gw_in (tb_1 (List.mem_of_getElem? (i := 2) rfl)) (by first | rfl | decide +kernel)
theorem t_52 : (.fieldLink R_S 12 R_S "chip" "LWeighRecorder$Chip;" : Cond) ∈ gw := gw_in (tb_1 (List.mem_of_getElem? (i := 52) rfl)) (by first | rfl | decide +kernel)
theorem t_160 : (.methodLink R_S 120 y_C_isRight : Cond) ∈ gw := gw_in (tb_1 (List.mem_of_getElem? (i := 160) rfl)) (by first | rfl | decide +kernel)
theorem t_163 : (.code y_C_isRight b_C_isRight 3 (some (.boolean)) : Cond) ∈ gw := gw_in (tb_1 (List.mem_of_getElem? (i := 163) rfl)) (by first | rfl | decide +kernel)
theorem t_161 : (.instanceMethod y_C_isRight : Cond) ∈ gw := gw_in (tb_1 (List.mem_of_getElem? (i := 161) rfl)) (by first | rfl | decide +kernel)
theorem t_162 : (.selects R_C y_C_isRight y_C_isRight : Cond) ∈ gw := gw_in (tb_1 (List.mem_of_getElem? (i := 162) rfl)) (by first | rfl | decide +kernel)
theorem t_156 : (.methodLink R_S 110 y_S_findNewestPages : Cond) ∈ gw := gw_in (tb_1 (List.mem_of_getElem? (i := 156) rfl)) (by first | rfl | decide +kernel)
theorem t_159 : (.code y_S_findNewestPages b_S_findNewestPages 4 (some (.int)) : Cond) ∈ gw := gw_in (tb_1 (List.mem_of_getElem? (i := 159) rfl)) (by first | rfl | decide +kernel)
theorem t_158 : (.instanceMethod y_S_findNewestPages : Cond) ∈ gw := gw_in (tb_1 (List.mem_of_getElem? (i := 158) rfl)) (by first | rfl | decide +kernel)
theorem t_58 : (.fieldLink R_S 35 R_S "wornOut" "Z" : Cond) ∈ gw := gw_in (tb_1 (List.mem_of_getElem? (i := 58) rfl)) (by first | rfl | decide +kernel)
theorem t_178 : (.methodLink R_S 113 y_G_empty : Cond) ∈ gw := gw_in (tb_1 (List.mem_of_getElem? (i := 178) rfl)) (by first | rfl | decide +kernel)
theorem t_181 : (.code y_G_empty b_G_empty 1 none : Cond) ∈ gw := gw_in (tb_1 (List.mem_of_getElem? (i := 181) rfl)) (by first | rfl | decide +kernel)
theorem t_179 : (.instanceMethod y_G_empty : Cond) ∈ gw := gw_in (tb_1 (List.mem_of_getElem? (i := 179) rfl)) (by first | rfl | decide +kernel)
theorem t_180 : (.selects R_G y_G_empty y_G_empty : Cond) ∈ gw := gw_in (tb_1 (List.mem_of_getElem? (i := 180) rfl)) (by first | rfl | decide +kernel)
theorem t_4 : (.initialized R_G : Cond) ∈ gw := gw_in (tb_1 (List.mem_of_getElem? (i := 4) rfl)) (by first | rfl | decide +kernel)
theorem t_209 : (.methodLink R_S 96 y_G_recordCount : Cond) ∈ gw := gw_in (tb_1 (List.mem_of_getElem? (i := 209) rfl)) (by first | rfl | decide +kernel)
theorem t_212 : (.code y_G_recordCount b_G_recordCount 1 (some (.int)) : Cond) ∈ gw := gw_in (tb_1 (List.mem_of_getElem? (i := 212) rfl)) (by first | rfl | decide +kernel)
theorem t_210 : (.instanceMethod y_G_recordCount : Cond) ∈ gw := gw_in (tb_1 (List.mem_of_getElem? (i := 210) rfl)) (by first | rfl | decide +kernel)
theorem t_211 : (.selects R_G y_G_recordCount y_G_recordCount : Cond) ∈ gw := gw_in (tb_1 (List.mem_of_getElem? (i := 211) rfl)) (by first | rfl | decide +kernel)
theorem t_119 : (.fieldLink R_R 41 R_R "readings" "I" : Cond) ∈ gw := gw_in (tb_1 (List.mem_of_getElem? (i := 119) rfl)) (by first | rfl | decide +kernel)
theorem t_120 : (.fieldLink R_R 45 R_R "readSteps" "I" : Cond) ∈ gw := gw_in (tb_1 (List.mem_of_getElem? (i := 120) rfl)) (by first | rfl | decide +kernel)
theorem t_115 : (.fieldLink R_R 20 R_R "chip" "LWeighRecorder$Chip;" : Cond) ∈ gw := gw_in (tb_1 (List.mem_of_getElem? (i := 115) rfl)) (by first | rfl | decide +kernel)
theorem t_140 : (.methodLink R_R 162 y_C_turnOff : Cond) ∈ gw := gw_in (tb_1 (List.mem_of_getElem? (i := 140) rfl)) (by first | rfl | decide +kernel)
theorem t_143 : (.code y_C_turnOff b_C_turnOff 1 none : Cond) ∈ gw := gw_in (tb_1 (List.mem_of_getElem? (i := 143) rfl)) (by first | rfl | decide +kernel)
theorem t_141 : (.instanceMethod y_C_turnOff : Cond) ∈ gw := gw_in (tb_1 (List.mem_of_getElem? (i := 141) rfl)) (by first | rfl | decide +kernel)
theorem t_142 : (.selects R_C y_C_turnOff y_C_turnOff : Cond) ∈ gw := gw_in (tb_1 (List.mem_of_getElem? (i := 142) rfl)) (by first | rfl | decide +kernel)
theorem t_148 : (.methodLink R_R 78 y_R_forgetReadings : Cond) ∈ gw := gw_in (tb_1 (List.mem_of_getElem? (i := 148) rfl)) (by first | rfl | decide +kernel)
theorem t_151 : (.code y_R_forgetReadings b_R_forgetReadings 1 none : Cond) ∈ gw := gw_in (tb_1 (List.mem_of_getElem? (i := 151) rfl)) (by first | rfl | decide +kernel)
theorem t_150 : (.instanceMethod y_R_forgetReadings : Cond) ∈ gw := gw_in (tb_1 (List.mem_of_getElem? (i := 150) rfl)) (by first | rfl | decide +kernel)
theorem t_1 : (.initialized R_R : Cond) ∈ gw := gw_in (tb_1 (List.mem_of_getElem? (i := 1) rfl)) (by first | rfl | decide +kernel)
theorem t_114 : (.fieldLink R_R 12 R_R "store" "LWeighRecorder$Store;" : Cond) ∈ gw := gw_in (tb_1 (List.mem_of_getElem? (i := 114) rfl)) (by first | rfl | decide +kernel)
theorem t_116 : (.fieldLink R_R 26 R_R "log" "LWeighRecorder$Log;" : Cond) ∈ gw := gw_in (tb_1 (List.mem_of_getElem? (i := 116) rfl)) (by first | rfl | decide +kernel)
theorem t_152 : (.methodLink R_R 165 y_S_restore : Cond) ∈ gw := gw_in (tb_1 (List.mem_of_getElem? (i := 152) rfl)) (by first | rfl | decide +kernel)
theorem t_155 : (.code y_S_restore b_S_restore 5 none : Cond) ∈ gw := gw_in (tb_1 (List.mem_of_getElem? (i := 155) rfl)) (by first | rfl | decide +kernel)
theorem t_153 : (.instanceMethod y_S_restore : Cond) ∈ gw := gw_in (tb_1 (List.mem_of_getElem? (i := 153) rfl)) (by first | rfl | decide +kernel)
theorem t_154 : (.selects R_S y_S_restore y_S_restore : Cond) ∈ gw := gw_in (tb_1 (List.mem_of_getElem? (i := 154) rfl)) (by first | rfl | decide +kernel)
theorem t_213 : (.methodLink R_R 169 y_C_turnOn : Cond) ∈ gw := gw_in (tb_1 (List.mem_of_getElem? (i := 213) rfl)) (by first | rfl | decide +kernel)
theorem t_216 : (.code y_C_turnOn b_C_turnOn 1 none : Cond) ∈ gw := gw_in (tb_1 (List.mem_of_getElem? (i := 216) rfl)) (by first | rfl | decide +kernel)
theorem t_214 : (.instanceMethod y_C_turnOn : Cond) ∈ gw := gw_in (tb_1 (List.mem_of_getElem? (i := 214) rfl)) (by first | rfl | decide +kernel)
theorem t_215 : (.selects R_C y_C_turnOn y_C_turnOn : Cond) ∈ gw := gw_in (tb_1 (List.mem_of_getElem? (i := 215) rfl)) (by first | rfl | decide +kernel)
theorem t_217 : (.methodLink R_R 81 y_G_ticketCount : Cond) ∈ gw := gw_in (tb_1 (List.mem_of_getElem? (i := 217) rfl)) (by first | rfl | decide +kernel)
theorem t_220 : (.code y_G_ticketCount b_G_ticketCount 1 (some (.int)) : Cond) ∈ gw := gw_in (tb_1 (List.mem_of_getElem? (i := 220) rfl)) (by first | rfl | decide +kernel)
theorem t_218 : (.instanceMethod y_G_ticketCount : Cond) ∈ gw := gw_in (tb_1 (List.mem_of_getElem? (i := 218) rfl)) (by first | rfl | decide +kernel)
theorem t_219 : (.selects R_G y_G_ticketCount y_G_ticketCount : Cond) ∈ gw := gw_in (tb_1 (List.mem_of_getElem? (i := 219) rfl)) (by first | rfl | decide +kernel)
theorem t_712 : (.fieldLink R_M 49 R_M "thrown" "I" : Cond) ∈ gw := gw_in (tb_3 (List.mem_of_getElem? (i := 232) rfl)) (by first | rfl | decide +kernel)
theorem t_719 : (.fieldLink R_M 52 R_M "records" "I" : Cond) ∈ gw := gw_in (tb_3 (List.mem_of_getElem? (i := 239) rfl)) (by first | rfl | decide +kernel)
theorem t_723 : (.fieldLink R_M 55 R_M "serial" "I" : Cond) ∈ gw := gw_in (tb_4 (List.mem_of_getElem? (i := 3) rfl)) (by first | rfl | decide +kernel)
theorem t_724 : (.fieldLink R_M 40 R_M "cursor" "I" : Cond) ∈ gw := gw_in (tb_4 (List.mem_of_getElem? (i := 4) rfl)) (by first | rfl | decide +kernel)
theorem t_725 : (.fieldLink R_M 58 R_M "readings" "I" : Cond) ∈ gw := gw_in (tb_4 (List.mem_of_getElem? (i := 5) rfl)) (by first | rfl | decide +kernel)
theorem t_726 : (.fieldLink R_M 61 R_M "weight" "I" : Cond) ∈ gw := gw_in (tb_4 (List.mem_of_getElem? (i := 6) rfl)) (by first | rfl | decide +kernel)
theorem t_727 : (.fieldLink R_M 64 R_M "worn" "Z" : Cond) ∈ gw := gw_in (tb_4 (List.mem_of_getElem? (i := 7) rfl)) (by first | rfl | decide +kernel)
theorem t_718 : (.fieldLink R_M 27 R_M "cut" "I" : Cond) ∈ gw := gw_in (tb_3 (List.mem_of_getElem? (i := 238) rfl)) (by first | rfl | decide +kernel)
theorem t_721 : (.fieldLink R_M 34 R_M "live" "[I" : Cond) ∈ gw := gw_in (tb_4 (List.mem_of_getElem? (i := 1) rfl)) (by first | rfl | decide +kernel)
theorem t_717 : (.fieldLink R_M 23 R_M "on" "Z" : Cond) ∈ gw := gw_in (tb_3 (List.mem_of_getElem? (i := 237) rfl)) (by first | rfl | decide +kernel)
theorem t_708 : (.methodLink R_M 46 y_M_forget : Cond) ∈ gw := gw_in (tb_3 (List.mem_of_getElem? (i := 228) rfl)) (by first | rfl | decide +kernel)
theorem t_711 : (.code y_M_forget b_M_forget 2 none : Cond) ∈ gw := gw_in (tb_3 (List.mem_of_getElem? (i := 231) rfl)) (by first | rfl | decide +kernel)
theorem t_710 : (.instanceMethod y_M_forget : Cond) ∈ gw := gw_in (tb_3 (List.mem_of_getElem? (i := 230) rfl)) (by first | rfl | decide +kernel)
theorem t_6 : (.initialized R_M : Cond) ∈ gw := gw_in (tb_1 (List.mem_of_getElem? (i := 6) rfl)) (by first | rfl | decide +kernel)
theorem t_713 : (.fieldLink R_M 7 R_M "chip" "[I" : Cond) ∈ gw := gw_in (tb_3 (List.mem_of_getElem? (i := 233) rfl)) (by first | rfl | decide +kernel)
theorem t_820 : (.methodLink R_M 80 y_M_isFree : Cond) ∈ gw := gw_in (tb_4 (List.mem_of_getElem? (i := 100) rfl)) (by first | rfl | decide +kernel)
theorem t_823 : (.code y_M_isFree b_M_isFree 4 (some (.boolean)) : Cond) ∈ gw := gw_in (tb_4 (List.mem_of_getElem? (i := 103) rfl)) (by first | rfl | decide +kernel)
theorem t_822 : (.instanceMethod y_M_isFree : Cond) ∈ gw := gw_in (tb_4 (List.mem_of_getElem? (i := 102) rfl)) (by first | rfl | decide +kernel)
theorem t_715 : (.fieldLink R_M 16 R_M "failed" "[Z" : Cond) ∈ gw := gw_in (tb_3 (List.mem_of_getElem? (i := 235) rfl)) (by first | rfl | decide +kernel)
theorem t_927 : (.methodLink R_M 163 y_M_isRight : Cond) ∈ gw := gw_in (tb_4 (List.mem_of_getElem? (i := 207) rfl)) (by first | rfl | decide +kernel)
theorem t_930 : (.code y_M_isRight b_M_isRight 3 (some (.boolean)) : Cond) ∈ gw := gw_in (tb_4 (List.mem_of_getElem? (i := 210) rfl)) (by first | rfl | decide +kernel)
theorem t_929 : (.instanceMethod y_M_isRight : Cond) ∈ gw := gw_in (tb_4 (List.mem_of_getElem? (i := 209) rfl)) (by first | rfl | decide +kernel)
theorem t_781 : (.methodLink R_M 130 y_M_isIn : Cond) ∈ gw := gw_in (tb_4 (List.mem_of_getElem? (i := 61) rfl)) (by first | rfl | decide +kernel)
theorem t_783 : (.code y_M_isIn b_M_isIn 3 (some (.boolean)) : Cond) ∈ gw := gw_in (tb_4 (List.mem_of_getElem? (i := 63) rfl)) (by first | rfl | decide +kernel)
theorem t_782 : (.static y_M_isIn : Cond) ∈ gw := gw_in (tb_4 (List.mem_of_getElem? (i := 62) rfl)) (by first | rfl | decide +kernel)
theorem t_784 : (.methodLink R_M 137 y_M_fails : Cond) ∈ gw := gw_in (tb_4 (List.mem_of_getElem? (i := 64) rfl)) (by first | rfl | decide +kernel)
theorem t_787 : (.code y_M_fails b_M_fails 3 (some (.boolean)) : Cond) ∈ gw := gw_in (tb_4 (List.mem_of_getElem? (i := 67) rfl)) (by first | rfl | decide +kernel)
theorem t_786 : (.instanceMethod y_M_fails : Cond) ∈ gw := gw_in (tb_4 (List.mem_of_getElem? (i := 66) rfl)) (by first | rfl | decide +kernel)
theorem t_792 : (.constant R_M 141 216000 : Cond) ∈ gw := gw_in (tb_4 (List.mem_of_getElem? (i := 72) rfl)) (by first | rfl | decide +kernel)
theorem t_793 : (.constant R_M 142 67108863 : Cond) ∈ gw := gw_in (tb_4 (List.mem_of_getElem? (i := 73) rfl)) (by first | rfl | decide +kernel)
theorem t_881 : (.methodLink R_M 127 y_M_placeOf : Cond) ∈ gw := gw_in (tb_4 (List.mem_of_getElem? (i := 161) rfl)) (by first | rfl | decide +kernel)
theorem t_884 : (.code y_M_placeOf b_M_placeOf 4 (some (.int)) : Cond) ∈ gw := gw_in (tb_4 (List.mem_of_getElem? (i := 164) rfl)) (by first | rfl | decide +kernel)
theorem t_883 : (.instanceMethod y_M_placeOf : Cond) ∈ gw := gw_in (tb_4 (List.mem_of_getElem? (i := 163) rfl)) (by first | rfl | decide +kernel)
theorem t_894 : (.methodLink R_M 156 y_M_durable : Cond) ∈ gw := gw_in (tb_4 (List.mem_of_getElem? (i := 174) rfl)) (by first | rfl | decide +kernel)
theorem t_897 : (.code y_M_durable b_M_durable 3 (some (.int)) : Cond) ∈ gw := gw_in (tb_4 (List.mem_of_getElem? (i := 177) rfl)) (by first | rfl | decide +kernel)
theorem t_896 : (.instanceMethod y_M_durable : Cond) ∈ gw := gw_in (tb_4 (List.mem_of_getElem? (i := 176) rfl)) (by first | rfl | decide +kernel)
theorem t_865 : (.methodLink R_M 149 y_M_tickets : Cond) ∈ gw := gw_in (tb_4 (List.mem_of_getElem? (i := 145) rfl)) (by first | rfl | decide +kernel)
theorem t_868 : (.code y_M_tickets b_M_tickets 3 (some (.int)) : Cond) ∈ gw := gw_in (tb_4 (List.mem_of_getElem? (i := 148) rfl)) (by first | rfl | decide +kernel)
theorem t_867 : (.instanceMethod y_M_tickets : Cond) ∈ gw := gw_in (tb_4 (List.mem_of_getElem? (i := 147) rfl)) (by first | rfl | decide +kernel)
theorem t_729 : (.fieldLink R_M 172 R_M "place" "I" : Cond) ∈ gw := gw_in (tb_4 (List.mem_of_getElem? (i := 9) rfl)) (by first | rfl | decide +kernel)
theorem t_730 : (.fieldLink R_M 175 R_M "sought" "I" : Cond) ∈ gw := gw_in (tb_4 (List.mem_of_getElem? (i := 10) rfl)) (by first | rfl | decide +kernel)
theorem t_731 : (.fieldLink R_M 178 R_M "found" "I" : Cond) ∈ gw := gw_in (tb_4 (List.mem_of_getElem? (i := 11) rfl)) (by first | rfl | decide +kernel)
theorem s_5 : (.selects R_S y_S_isLive y_S_isLive : Cond) ∈ gw := gw_in (tb_s (q := (⟨"WeighRecorder$Store", "isLive", "(I)Z"⟩, _)) (List.mem_of_getElem? (i := 5) rfl)) (by first | rfl | decide +kernel)
theorem s_1 : (.selects R_S y_S_findNewestPages y_S_findNewestPages : Cond) ∈ gw := gw_in (tb_s (q := (⟨"WeighRecorder$Store", "findNewestPages", "()I"⟩, _)) (List.mem_of_getElem? (i := 1) rfl)) (by first | rfl | decide +kernel)
theorem s_0 : (.selects R_R y_R_forgetReadings y_R_forgetReadings : Cond) ∈ gw := gw_in (tb_s (q := (⟨"WeighRecorder", "forgetReadings", "()V"⟩, _)) (List.mem_of_getElem? (i := 0) rfl)) (by first | rfl | decide +kernel)
theorem s_21 : (.selects R_M y_M_forget y_M_forget : Cond) ∈ gw := gw_in (tb_s (q := (⟨"WeighRecorderModel", "forget", "()V"⟩, _)) (List.mem_of_getElem? (i := 21) rfl)) (by first | rfl | decide +kernel)
theorem s_28 : (.selects R_M y_M_isFree y_M_isFree : Cond) ∈ gw := gw_in (tb_s (q := (⟨"WeighRecorderModel", "isFree", "(I)Z"⟩, _)) (List.mem_of_getElem? (i := 28) rfl)) (by first | rfl | decide +kernel)
theorem s_47 : (.selects R_M y_M_isRight y_M_isRight : Cond) ∈ gw := gw_in (tb_s (q := (⟨"WeighRecorderModel", "isRight", "(I)Z"⟩, _)) (List.mem_of_getElem? (i := 47) rfl)) (by first | rfl | decide +kernel)
theorem s_22 : (.selects R_M y_M_fails y_M_fails : Cond) ∈ gw := gw_in (tb_s (q := (⟨"WeighRecorderModel", "fails", "(IZ)Z"⟩, _)) (List.mem_of_getElem? (i := 22) rfl)) (by first | rfl | decide +kernel)
theorem s_42 : (.selects R_M y_M_placeOf y_M_placeOf : Cond) ∈ gw := gw_in (tb_s (q := (⟨"WeighRecorderModel", "placeOf", "(I)I"⟩, _)) (List.mem_of_getElem? (i := 42) rfl)) (by first | rfl | decide +kernel)
theorem s_44 : (.selects R_M y_M_durable y_M_durable : Cond) ∈ gw := gw_in (tb_s (q := (⟨"WeighRecorderModel", "durable", "()I"⟩, _)) (List.mem_of_getElem? (i := 44) rfl)) (by first | rfl | decide +kernel)
theorem s_39 : (.selects R_M y_M_tickets y_M_tickets : Cond) ∈ gw := gw_in (tb_s (q := (⟨"WeighRecorderModel", "tickets", "()I"⟩, _)) (List.mem_of_getElem? (i := 39) rfl)) (by first | rfl | decide +kernel)
theorem d_C_isPowered_0 : decode b_C_isPowered 0 = .ok (.aload_n 0, 1) := by decide +kernel
theorem d_C_isPowered_1 : decode b_C_isPowered 1 = .ok (.getfield 22, 3) := by decide +kernel
theorem d_C_isPowered_4 : decode b_C_isPowered 4 = .ok (.ireturn, 1) := by decide +kernel
theorem d_C_read_0 : decode b_C_read 0 = .ok (.aload_n 0, 1) := by decide +kernel
theorem d_C_read_1 : decode b_C_read 1 = .ok (.getfield 9, 3) := by decide +kernel
theorem d_C_read_4 : decode b_C_read 4 = .ok (.iload_n 1, 1) := by decide +kernel
theorem d_C_read_5 : decode b_C_read 5 = .ok (.bipush 16, 2) := by decide +kernel
theorem d_C_read_7 : decode b_C_read 7 = .ok (.imul, 1) := by decide +kernel
theorem d_C_read_8 : decode b_C_read 8 = .ok (.iload_n 2, 1) := by decide +kernel
theorem d_C_read_9 : decode b_C_read 9 = .ok (.iadd, 1) := by decide +kernel
theorem d_C_read_10 : decode b_C_read 10 = .ok (.iaload, 1) := by decide +kernel
theorem d_C_read_11 : decode b_C_read 11 = .ok (.ireturn, 1) := by decide +kernel
theorem d_C_wearAt_0 : decode b_C_wearAt 0 = .ok (.aload_n 0, 1) := by decide +kernel
theorem d_C_wearAt_1 : decode b_C_wearAt 1 = .ok (.getfield 15, 3) := by decide +kernel
theorem d_C_wearAt_4 : decode b_C_wearAt 4 = .ok (.iload_n 1, 1) := by decide +kernel
theorem d_C_wearAt_5 : decode b_C_wearAt 5 = .ok (.iaload, 1) := by decide +kernel
theorem d_C_wearAt_6 : decode b_C_wearAt 6 = .ok (.ireturn, 1) := by decide +kernel
theorem d_C_isFree_0 : decode b_C_isFree 0 = .ok (.iload_n 1, 1) := by decide +kernel
theorem d_C_isFree_1 : decode b_C_isFree 1 = .ok (.bipush 16, 2) := by decide +kernel
theorem d_C_isFree_3 : decode b_C_isFree 3 = .ok (.imul, 1) := by decide +kernel
theorem d_C_isFree_4 : decode b_C_isFree 4 = .ok (.istore_n 2, 1) := by decide +kernel
theorem d_C_isFree_5 : decode b_C_isFree 5 = .ok (.iload_n 2, 1) := by decide +kernel
theorem d_C_isFree_6 : decode b_C_isFree 6 = .ok (.istore_n 3, 1) := by decide +kernel
theorem d_C_isFree_7 : decode b_C_isFree 7 = .ok (.iload_n 3, 1) := by decide +kernel
theorem d_C_isFree_8 : decode b_C_isFree 8 = .ok (.iload_n 2, 1) := by decide +kernel
theorem d_C_isFree_9 : decode b_C_isFree 9 = .ok (.bipush 16, 2) := by decide +kernel
theorem d_C_isFree_11 : decode b_C_isFree 11 = .ok (.iadd, 1) := by decide +kernel
theorem d_C_isFree_12 : decode b_C_isFree 12 = .ok (.if_icmp .ge (21), 3) := by decide +kernel
theorem d_C_isFree_15 : decode b_C_isFree 15 = .ok (.aload_n 0, 1) := by decide +kernel
theorem d_C_isFree_16 : decode b_C_isFree 16 = .ok (.getfield 9, 3) := by decide +kernel
theorem d_C_isFree_19 : decode b_C_isFree 19 = .ok (.iload_n 3, 1) := by decide +kernel
theorem d_C_isFree_20 : decode b_C_isFree 20 = .ok (.iaload, 1) := by decide +kernel
theorem d_C_isFree_21 : decode b_C_isFree 21 = .ok (.iconst (-1), 1) := by decide +kernel
theorem d_C_isFree_22 : decode b_C_isFree 22 = .ok (.if_icmp .eq (5), 3) := by decide +kernel
theorem d_C_isFree_25 : decode b_C_isFree 25 = .ok (.iconst 0, 1) := by decide +kernel
theorem d_C_isFree_26 : decode b_C_isFree 26 = .ok (.ireturn, 1) := by decide +kernel
theorem d_C_isFree_27 : decode b_C_isFree 27 = .ok (.iinc 3 1, 3) := by decide +kernel
theorem d_C_isFree_30 : decode b_C_isFree 30 = .ok (.goto (-23), 3) := by decide +kernel
theorem d_C_isFree_33 : decode b_C_isFree 33 = .ok (.iconst 1, 1) := by decide +kernel
theorem d_C_isFree_34 : decode b_C_isFree 34 = .ok (.ireturn, 1) := by decide +kernel
theorem d_C_isRight_0 : decode b_C_isRight 0 = .ok (.aload_n 0, 1) := by decide +kernel
theorem d_C_isRight_1 : decode b_C_isRight 1 = .ok (.iload_n 1, 1) := by decide +kernel
theorem d_C_isRight_2 : decode b_C_isRight 2 = .ok (.iconst 0, 1) := by decide +kernel
theorem d_C_isRight_3 : decode b_C_isRight 3 = .ok (.invokevirtual 34, 3) := by decide +kernel
theorem d_C_isRight_6 : decode b_C_isRight 6 = .ok (.istore_n 2, 1) := by decide +kernel
theorem d_C_isRight_7 : decode b_C_isRight 7 = .ok (.iload_n 2, 1) := by decide +kernel
theorem d_C_isRight_8 : decode b_C_isRight 8 = .ok (.ifCond .le (54), 3) := by decide +kernel
theorem d_C_isRight_11 : decode b_C_isRight 11 = .ok (.iload_n 2, 1) := by decide +kernel
theorem d_C_isRight_12 : decode b_C_isRight 12 = .ok (.bipush 64, 2) := by decide +kernel
theorem d_C_isRight_14 : decode b_C_isRight 14 = .ok (.if_icmp .ge (48), 3) := by decide +kernel
theorem d_C_isRight_17 : decode b_C_isRight 17 = .ok (.iload_n 2, 1) := by decide +kernel
theorem d_C_isRight_18 : decode b_C_isRight 18 = .ok (.iconst 4, 1) := by decide +kernel
theorem d_C_isRight_19 : decode b_C_isRight 19 = .ok (.irem, 1) := by decide +kernel
theorem d_C_isRight_20 : decode b_C_isRight 20 = .ok (.ifCond .eq (42), 3) := by decide +kernel
theorem d_C_isRight_23 : decode b_C_isRight 23 = .ok (.aload_n 0, 1) := by decide +kernel
theorem d_C_isRight_24 : decode b_C_isRight 24 = .ok (.iload_n 1, 1) := by decide +kernel
theorem d_C_isRight_25 : decode b_C_isRight 25 = .ok (.bipush 15, 2) := by decide +kernel
theorem d_C_isRight_27 : decode b_C_isRight 27 = .ok (.invokevirtual 34, 3) := by decide +kernel
theorem d_C_isRight_30 : decode b_C_isRight 30 = .ok (.ldc 38, 2) := by decide +kernel
theorem d_C_isRight_32 : decode b_C_isRight 32 = .ok (.if_icmp .ne (30), 3) := by decide +kernel
theorem d_C_isRight_35 : decode b_C_isRight 35 = .ok (.aload_n 0, 1) := by decide +kernel
theorem d_C_isRight_36 : decode b_C_isRight 36 = .ok (.iload_n 1, 1) := by decide +kernel
theorem d_C_isRight_37 : decode b_C_isRight 37 = .ok (.bipush 14, 2) := by decide +kernel
theorem d_C_isRight_39 : decode b_C_isRight 39 = .ok (.invokevirtual 34, 3) := by decide +kernel
theorem d_C_isRight_42 : decode b_C_isRight 42 = .ok (.aload_n 0, 1) := by decide +kernel
theorem d_C_isRight_43 : decode b_C_isRight 43 = .ok (.getfield 9, 3) := by decide +kernel
theorem d_C_isRight_46 : decode b_C_isRight 46 = .ok (.iload_n 1, 1) := by decide +kernel
theorem d_C_isRight_47 : decode b_C_isRight 47 = .ok (.bipush 16, 2) := by decide +kernel
theorem d_C_isRight_49 : decode b_C_isRight 49 = .ok (.imul, 1) := by decide +kernel
theorem d_C_isRight_50 : decode b_C_isRight 50 = .ok (.bipush 14, 2) := by decide +kernel
theorem d_C_isRight_52 : decode b_C_isRight 52 = .ok (.invokestatic 39, 3) := by decide +kernel
theorem d_C_isRight_55 : decode b_C_isRight 55 = .ok (.if_icmp .ne (7), 3) := by decide +kernel
theorem d_C_isRight_58 : decode b_C_isRight 58 = .ok (.iconst 1, 1) := by decide +kernel
theorem d_C_isRight_59 : decode b_C_isRight 59 = .ok (.goto (4), 3) := by decide +kernel
theorem d_C_isRight_62 : decode b_C_isRight 62 = .ok (.iconst 0, 1) := by decide +kernel
theorem d_C_isRight_63 : decode b_C_isRight 63 = .ok (.ireturn, 1) := by decide +kernel
theorem d_C_freePagesOf_0 : decode b_C_freePagesOf 0 = .ok (.iconst 0, 1) := by decide +kernel
theorem d_C_freePagesOf_1 : decode b_C_freePagesOf 1 = .ok (.istore_n 2, 1) := by decide +kernel
theorem d_C_freePagesOf_2 : decode b_C_freePagesOf 2 = .ok (.iload_n 1, 1) := by decide +kernel
theorem d_C_freePagesOf_3 : decode b_C_freePagesOf 3 = .ok (.iconst 4, 1) := by decide +kernel
theorem d_C_freePagesOf_4 : decode b_C_freePagesOf 4 = .ok (.imul, 1) := by decide +kernel
theorem d_C_freePagesOf_5 : decode b_C_freePagesOf 5 = .ok (.istore_n 3, 1) := by decide +kernel
theorem d_C_freePagesOf_6 : decode b_C_freePagesOf 6 = .ok (.iload_n 3, 1) := by decide +kernel
theorem d_C_freePagesOf_7 : decode b_C_freePagesOf 7 = .ok (.iload_n 1, 1) := by decide +kernel
theorem d_C_freePagesOf_8 : decode b_C_freePagesOf 8 = .ok (.iconst 1, 1) := by decide +kernel
theorem d_C_freePagesOf_9 : decode b_C_freePagesOf 9 = .ok (.iadd, 1) := by decide +kernel
theorem d_C_freePagesOf_10 : decode b_C_freePagesOf 10 = .ok (.iconst 4, 1) := by decide +kernel
theorem d_C_freePagesOf_11 : decode b_C_freePagesOf 11 = .ok (.imul, 1) := by decide +kernel
theorem d_C_freePagesOf_12 : decode b_C_freePagesOf 12 = .ok (.if_icmp .ge (20), 3) := by decide +kernel
theorem d_C_freePagesOf_15 : decode b_C_freePagesOf 15 = .ok (.aload_n 0, 1) := by decide +kernel
theorem d_C_freePagesOf_16 : decode b_C_freePagesOf 16 = .ok (.iload_n 3, 1) := by decide +kernel
theorem d_C_freePagesOf_17 : decode b_C_freePagesOf 17 = .ok (.invokevirtual 43, 3) := by decide +kernel
theorem d_C_freePagesOf_20 : decode b_C_freePagesOf 20 = .ok (.ifCond .eq (6), 3) := by decide +kernel
theorem d_C_freePagesOf_23 : decode b_C_freePagesOf 23 = .ok (.iinc 2 1, 3) := by decide +kernel
theorem d_C_freePagesOf_26 : decode b_C_freePagesOf 26 = .ok (.iinc 3 1, 3) := by decide +kernel
theorem d_C_freePagesOf_29 : decode b_C_freePagesOf 29 = .ok (.goto (-23), 3) := by decide +kernel
theorem d_C_freePagesOf_32 : decode b_C_freePagesOf 32 = .ok (.iload_n 2, 1) := by decide +kernel
theorem d_C_freePagesOf_33 : decode b_C_freePagesOf 33 = .ok (.ireturn, 1) := by decide +kernel
theorem d_C_usableFreePages_0 : decode b_C_usableFreePages 0 = .ok (.iconst 0, 1) := by decide +kernel
theorem d_C_usableFreePages_1 : decode b_C_usableFreePages 1 = .ok (.istore_n 1, 1) := by decide +kernel
theorem d_C_usableFreePages_2 : decode b_C_usableFreePages 2 = .ok (.iconst 0, 1) := by decide +kernel
theorem d_C_usableFreePages_3 : decode b_C_usableFreePages 3 = .ok (.istore_n 2, 1) := by decide +kernel
theorem d_C_usableFreePages_4 : decode b_C_usableFreePages 4 = .ok (.iload_n 2, 1) := by decide +kernel
theorem d_C_usableFreePages_5 : decode b_C_usableFreePages 5 = .ok (.bipush 8, 2) := by decide +kernel
theorem d_C_usableFreePages_7 : decode b_C_usableFreePages 7 = .ok (.if_icmp .ge (26), 3) := by decide +kernel
theorem d_C_usableFreePages_10 : decode b_C_usableFreePages 10 = .ok (.aload_n 0, 1) := by decide +kernel
theorem d_C_usableFreePages_11 : decode b_C_usableFreePages 11 = .ok (.getfield 18, 3) := by decide +kernel
theorem d_C_usableFreePages_14 : decode b_C_usableFreePages 14 = .ok (.iload_n 2, 1) := by decide +kernel
theorem d_C_usableFreePages_15 : decode b_C_usableFreePages 15 = .ok (.baload, 1) := by decide +kernel
theorem d_C_usableFreePages_16 : decode b_C_usableFreePages 16 = .ok (.ifCond .ne (11), 3) := by decide +kernel
theorem d_C_usableFreePages_19 : decode b_C_usableFreePages 19 = .ok (.iload_n 1, 1) := by decide +kernel
theorem d_C_usableFreePages_20 : decode b_C_usableFreePages 20 = .ok (.aload_n 0, 1) := by decide +kernel
theorem d_C_usableFreePages_21 : decode b_C_usableFreePages 21 = .ok (.iload_n 2, 1) := by decide +kernel
theorem d_C_usableFreePages_22 : decode b_C_usableFreePages 22 = .ok (.invokevirtual 47, 3) := by decide +kernel
theorem d_C_usableFreePages_25 : decode b_C_usableFreePages 25 = .ok (.iadd, 1) := by decide +kernel
theorem d_C_usableFreePages_26 : decode b_C_usableFreePages 26 = .ok (.istore_n 1, 1) := by decide +kernel
theorem d_C_usableFreePages_27 : decode b_C_usableFreePages 27 = .ok (.iinc 2 1, 3) := by decide +kernel
theorem d_C_usableFreePages_30 : decode b_C_usableFreePages 30 = .ok (.goto (-26), 3) := by decide +kernel
theorem d_C_usableFreePages_33 : decode b_C_usableFreePages 33 = .ok (.iload_n 1, 1) := by decide +kernel
theorem d_C_usableFreePages_34 : decode b_C_usableFreePages 34 = .ok (.ireturn, 1) := by decide +kernel
theorem d_C_turnOff_0 : decode b_C_turnOff 0 = .ok (.aload_n 0, 1) := by decide +kernel
theorem d_C_turnOff_1 : decode b_C_turnOff 1 = .ok (.iconst 0, 1) := by decide +kernel
theorem d_C_turnOff_2 : decode b_C_turnOff 2 = .ok (.putfield 22, 3) := by decide +kernel
theorem d_C_turnOff_5 : decode b_C_turnOff 5 = .ok (.aload_n 0, 1) := by decide +kernel
theorem d_C_turnOff_6 : decode b_C_turnOff 6 = .ok (.iconst (-1), 1) := by decide +kernel
theorem d_C_turnOff_7 : decode b_C_turnOff 7 = .ok (.putfield 26, 3) := by decide +kernel
theorem d_C_turnOff_10 : decode b_C_turnOff 10 = .ok (.return_, 1) := by decide +kernel
theorem d_C_turnOn_0 : decode b_C_turnOn 0 = .ok (.aload_n 0, 1) := by decide +kernel
theorem d_C_turnOn_1 : decode b_C_turnOn 1 = .ok (.iconst 1, 1) := by decide +kernel
theorem d_C_turnOn_2 : decode b_C_turnOn 2 = .ok (.putfield 22, 3) := by decide +kernel
theorem d_C_turnOn_5 : decode b_C_turnOn 5 = .ok (.return_, 1) := by decide +kernel
theorem d_C_tellCut_0 : decode b_C_tellCut 0 = .ok (.aload_n 0, 1) := by decide +kernel
theorem d_C_tellCut_1 : decode b_C_tellCut 1 = .ok (.iload_n 1, 1) := by decide +kernel
theorem d_C_tellCut_2 : decode b_C_tellCut 2 = .ok (.putfield 26, 3) := by decide +kernel
theorem d_C_tellCut_5 : decode b_C_tellCut 5 = .ok (.return_, 1) := by decide +kernel
theorem d_C_flip_0 : decode b_C_flip 0 = .ok (.aload_n 0, 1) := by decide +kernel
theorem d_C_flip_1 : decode b_C_flip 1 = .ok (.getfield 9, 3) := by decide +kernel
theorem d_C_flip_4 : decode b_C_flip 4 = .ok (.iload_n 1, 1) := by decide +kernel
theorem d_C_flip_5 : decode b_C_flip 5 = .ok (.bipush 16, 2) := by decide +kernel
theorem d_C_flip_7 : decode b_C_flip 7 = .ok (.imul, 1) := by decide +kernel
theorem d_C_flip_8 : decode b_C_flip 8 = .ok (.iload_n 2, 1) := by decide +kernel
theorem d_C_flip_9 : decode b_C_flip 9 = .ok (.iadd, 1) := by decide +kernel
theorem d_C_flip_10 : decode b_C_flip 10 = .ok (.dup2, 1) := by decide +kernel
theorem d_C_flip_11 : decode b_C_flip 11 = .ok (.iaload, 1) := by decide +kernel
theorem d_C_flip_12 : decode b_C_flip 12 = .ok (.iload_n 3, 1) := by decide +kernel
theorem d_C_flip_13 : decode b_C_flip 13 = .ok (.ixor, 1) := by decide +kernel
theorem d_C_flip_14 : decode b_C_flip 14 = .ok (.iastore, 1) := by decide +kernel
theorem d_C_flip_15 : decode b_C_flip 15 = .ok (.return_, 1) := by decide +kernel
theorem d_C_markFailed_0 : decode b_C_markFailed 0 = .ok (.aload_n 0, 1) := by decide +kernel
theorem d_C_markFailed_1 : decode b_C_markFailed 1 = .ok (.getfield 18, 3) := by decide +kernel
theorem d_C_markFailed_4 : decode b_C_markFailed 4 = .ok (.iload_n 1, 1) := by decide +kernel
theorem d_C_markFailed_5 : decode b_C_markFailed 5 = .ok (.iconst 1, 1) := by decide +kernel
theorem d_C_markFailed_6 : decode b_C_markFailed 6 = .ok (.bastore, 1) := by decide +kernel
theorem d_C_markFailed_7 : decode b_C_markFailed 7 = .ok (.return_, 1) := by decide +kernel
theorem d_G_recordCount_0 : decode b_G_recordCount 0 = .ok (.aload_n 0, 1) := by decide +kernel
theorem d_G_recordCount_1 : decode b_G_recordCount 1 = .ok (.getfield 21, 3) := by decide +kernel
theorem d_G_recordCount_4 : decode b_G_recordCount 4 = .ok (.ireturn, 1) := by decide +kernel
theorem d_G_ticketCount_0 : decode b_G_ticketCount 0 = .ok (.aload_n 0, 1) := by decide +kernel
theorem d_G_ticketCount_1 : decode b_G_ticketCount 1 = .ok (.getfield 25, 3) := by decide +kernel
theorem d_G_ticketCount_4 : decode b_G_ticketCount 4 = .ok (.ireturn, 1) := by decide +kernel
theorem d_G_hasTicket_0 : decode b_G_hasTicket 0 = .ok (.iload_n 1, 1) := by decide +kernel
theorem d_G_hasTicket_1 : decode b_G_hasTicket 1 = .ok (.iconst 1, 1) := by decide +kernel
theorem d_G_hasTicket_2 : decode b_G_hasTicket 2 = .ok (.if_icmp .lt (15), 3) := by decide +kernel
theorem d_G_hasTicket_5 : decode b_G_hasTicket 5 = .ok (.iload_n 1, 1) := by decide +kernel
theorem d_G_hasTicket_6 : decode b_G_hasTicket 6 = .ok (.aload_n 0, 1) := by decide +kernel
theorem d_G_hasTicket_7 : decode b_G_hasTicket 7 = .ok (.getfield 25, 3) := by decide +kernel
theorem d_G_hasTicket_10 : decode b_G_hasTicket 10 = .ok (.if_icmp .gt (7), 3) := by decide +kernel
theorem d_G_hasTicket_13 : decode b_G_hasTicket 13 = .ok (.iconst 1, 1) := by decide +kernel
theorem d_G_hasTicket_14 : decode b_G_hasTicket 14 = .ok (.goto (4), 3) := by decide +kernel
theorem d_G_hasTicket_17 : decode b_G_hasTicket 17 = .ok (.iconst 0, 1) := by decide +kernel
theorem d_G_hasTicket_18 : decode b_G_hasTicket 18 = .ok (.ireturn, 1) := by decide +kernel
theorem d_G_empty_0 : decode b_G_empty 0 = .ok (.aload_n 0, 1) := by decide +kernel
theorem d_G_empty_1 : decode b_G_empty 1 = .ok (.iconst 0, 1) := by decide +kernel
theorem d_G_empty_2 : decode b_G_empty 2 = .ok (.putfield 21, 3) := by decide +kernel
theorem d_G_empty_5 : decode b_G_empty 5 = .ok (.aload_n 0, 1) := by decide +kernel
theorem d_G_empty_6 : decode b_G_empty 6 = .ok (.iconst 0, 1) := by decide +kernel
theorem d_G_empty_7 : decode b_G_empty 7 = .ok (.putfield 25, 3) := by decide +kernel
theorem d_G_empty_10 : decode b_G_empty 10 = .ok (.return_, 1) := by decide +kernel
theorem d_S_durableCount_0 : decode b_S_durableCount 0 = .ok (.aload_n 0, 1) := by decide +kernel
theorem d_S_durableCount_1 : decode b_S_durableCount 1 = .ok (.getfield 32, 3) := by decide +kernel
theorem d_S_durableCount_4 : decode b_S_durableCount 4 = .ok (.ireturn, 1) := by decide +kernel
theorem d_S_latestSerial_0 : decode b_S_latestSerial 0 = .ok (.aload_n 0, 1) := by decide +kernel
theorem d_S_latestSerial_1 : decode b_S_latestSerial 1 = .ok (.getfield 29, 3) := by decide +kernel
theorem d_S_latestSerial_4 : decode b_S_latestSerial 4 = .ok (.ireturn, 1) := by decide +kernel
theorem d_S_cursorBlock_0 : decode b_S_cursorBlock 0 = .ok (.aload_n 0, 1) := by decide +kernel
theorem d_S_cursorBlock_1 : decode b_S_cursorBlock 1 = .ok (.getfield 25, 3) := by decide +kernel
theorem d_S_cursorBlock_4 : decode b_S_cursorBlock 4 = .ok (.ireturn, 1) := by decide +kernel
theorem d_S_isLive_0 : decode b_S_isLive 0 = .ok (.iconst 0, 1) := by decide +kernel
theorem d_S_isLive_1 : decode b_S_isLive 1 = .ok (.istore_n 2, 1) := by decide +kernel
theorem d_S_isLive_2 : decode b_S_isLive 2 = .ok (.iload_n 2, 1) := by decide +kernel
theorem d_S_isLive_3 : decode b_S_isLive 3 = .ok (.bipush 16, 2) := by decide +kernel
theorem d_S_isLive_5 : decode b_S_isLive 5 = .ok (.if_icmp .ge (21), 3) := by decide +kernel
theorem d_S_isLive_8 : decode b_S_isLive 8 = .ok (.aload_n 0, 1) := by decide +kernel
theorem d_S_isLive_9 : decode b_S_isLive 9 = .ok (.getfield 18, 3) := by decide +kernel
theorem d_S_isLive_12 : decode b_S_isLive 12 = .ok (.iload_n 2, 1) := by decide +kernel
theorem d_S_isLive_13 : decode b_S_isLive 13 = .ok (.iaload, 1) := by decide +kernel
theorem d_S_isLive_14 : decode b_S_isLive 14 = .ok (.iload_n 1, 1) := by decide +kernel
theorem d_S_isLive_15 : decode b_S_isLive 15 = .ok (.if_icmp .ne (5), 3) := by decide +kernel
theorem d_S_isLive_18 : decode b_S_isLive 18 = .ok (.iconst 1, 1) := by decide +kernel
theorem d_S_isLive_19 : decode b_S_isLive 19 = .ok (.ireturn, 1) := by decide +kernel
theorem d_S_isLive_20 : decode b_S_isLive 20 = .ok (.iinc 2 1, 3) := by decide +kernel
theorem d_S_isLive_23 : decode b_S_isLive 23 = .ok (.goto (-21), 3) := by decide +kernel
theorem d_S_isLive_26 : decode b_S_isLive 26 = .ok (.iconst 0, 1) := by decide +kernel
theorem d_S_isLive_27 : decode b_S_isLive 27 = .ok (.ireturn, 1) := by decide +kernel
theorem d_S_livePageCount_0 : decode b_S_livePageCount 0 = .ok (.iconst 0, 1) := by decide +kernel
theorem d_S_livePageCount_1 : decode b_S_livePageCount 1 = .ok (.istore_n 1, 1) := by decide +kernel
theorem d_S_livePageCount_2 : decode b_S_livePageCount 2 = .ok (.iconst 0, 1) := by decide +kernel
theorem d_S_livePageCount_3 : decode b_S_livePageCount 3 = .ok (.istore_n 2, 1) := by decide +kernel
theorem d_S_livePageCount_4 : decode b_S_livePageCount 4 = .ok (.iload_n 2, 1) := by decide +kernel
theorem d_S_livePageCount_5 : decode b_S_livePageCount 5 = .ok (.bipush 32, 2) := by decide +kernel
theorem d_S_livePageCount_7 : decode b_S_livePageCount 7 = .ok (.if_icmp .ge (20), 3) := by decide +kernel
theorem d_S_livePageCount_10 : decode b_S_livePageCount 10 = .ok (.aload_n 0, 1) := by decide +kernel
theorem d_S_livePageCount_11 : decode b_S_livePageCount 11 = .ok (.iload_n 2, 1) := by decide +kernel
theorem d_S_livePageCount_12 : decode b_S_livePageCount 12 = .ok (.invokevirtual 39, 3) := by decide +kernel
theorem d_S_livePageCount_15 : decode b_S_livePageCount 15 = .ok (.ifCond .eq (6), 3) := by decide +kernel
theorem d_S_livePageCount_18 : decode b_S_livePageCount 18 = .ok (.iinc 1 1, 3) := by decide +kernel
theorem d_S_livePageCount_21 : decode b_S_livePageCount 21 = .ok (.iinc 2 1, 3) := by decide +kernel
theorem d_S_livePageCount_24 : decode b_S_livePageCount 24 = .ok (.goto (-20), 3) := by decide +kernel
theorem d_S_livePageCount_27 : decode b_S_livePageCount 27 = .ok (.iload_n 1, 1) := by decide +kernel
theorem d_S_livePageCount_28 : decode b_S_livePageCount 28 = .ok (.ireturn, 1) := by decide +kernel
theorem d_S_findNewestPages_0 : decode b_S_findNewestPages 0 = .ok (.iconst 0, 1) := by decide +kernel
theorem d_S_findNewestPages_1 : decode b_S_findNewestPages 1 = .ok (.istore_n 1, 1) := by decide +kernel
theorem d_S_findNewestPages_2 : decode b_S_findNewestPages 2 = .ok (.iload_n 1, 1) := by decide +kernel
theorem d_S_findNewestPages_3 : decode b_S_findNewestPages 3 = .ok (.bipush 16, 2) := by decide +kernel
theorem d_S_findNewestPages_5 : decode b_S_findNewestPages 5 = .ok (.if_icmp .ge (16), 3) := by decide +kernel
theorem d_S_findNewestPages_8 : decode b_S_findNewestPages 8 = .ok (.aload_n 0, 1) := by decide +kernel
theorem d_S_findNewestPages_9 : decode b_S_findNewestPages 9 = .ok (.getfield 18, 3) := by decide +kernel
theorem d_S_findNewestPages_12 : decode b_S_findNewestPages 12 = .ok (.iload_n 1, 1) := by decide +kernel
theorem d_S_findNewestPages_13 : decode b_S_findNewestPages 13 = .ok (.iconst (-1), 1) := by decide +kernel
theorem d_S_findNewestPages_14 : decode b_S_findNewestPages 14 = .ok (.iastore, 1) := by decide +kernel
theorem d_S_findNewestPages_15 : decode b_S_findNewestPages 15 = .ok (.iinc 1 1, 3) := by decide +kernel
theorem d_S_findNewestPages_18 : decode b_S_findNewestPages 18 = .ok (.goto (-16), 3) := by decide +kernel
theorem d_S_findNewestPages_21 : decode b_S_findNewestPages 21 = .ok (.iconst (-1), 1) := by decide +kernel
theorem d_S_findNewestPages_22 : decode b_S_findNewestPages 22 = .ok (.istore_n 1, 1) := by decide +kernel
theorem d_S_findNewestPages_23 : decode b_S_findNewestPages 23 = .ok (.iconst 0, 1) := by decide +kernel
theorem d_S_findNewestPages_24 : decode b_S_findNewestPages 24 = .ok (.istore_n 2, 1) := by decide +kernel
theorem d_S_findNewestPages_25 : decode b_S_findNewestPages 25 = .ok (.iload_n 2, 1) := by decide +kernel
theorem d_S_findNewestPages_26 : decode b_S_findNewestPages 26 = .ok (.bipush 32, 2) := by decide +kernel
theorem d_S_findNewestPages_28 : decode b_S_findNewestPages 28 = .ok (.if_icmp .ge (56), 3) := by decide +kernel
theorem d_S_findNewestPages_31 : decode b_S_findNewestPages 31 = .ok (.aload_n 0, 1) := by decide +kernel
theorem d_S_findNewestPages_32 : decode b_S_findNewestPages 32 = .ok (.getfield 12, 3) := by decide +kernel
theorem d_S_findNewestPages_35 : decode b_S_findNewestPages 35 = .ok (.iload_n 2, 1) := by decide +kernel
theorem d_S_findNewestPages_36 : decode b_S_findNewestPages 36 = .ok (.invokevirtual 120, 3) := by decide +kernel
theorem d_S_findNewestPages_39 : decode b_S_findNewestPages 39 = .ok (.ifCond .eq (39), 3) := by decide +kernel
theorem d_S_findNewestPages_42 : decode b_S_findNewestPages 42 = .ok (.aload_n 0, 1) := by decide +kernel
theorem d_S_findNewestPages_43 : decode b_S_findNewestPages 43 = .ok (.getfield 12, 3) := by decide +kernel
theorem d_S_findNewestPages_46 : decode b_S_findNewestPages 46 = .ok (.iload_n 2, 1) := by decide +kernel
theorem d_S_findNewestPages_47 : decode b_S_findNewestPages 47 = .ok (.iconst 0, 1) := by decide +kernel
theorem d_S_findNewestPages_48 : decode b_S_findNewestPages 48 = .ok (.invokevirtual 85, 3) := by decide +kernel
theorem d_S_findNewestPages_51 : decode b_S_findNewestPages 51 = .ok (.iconst 4, 1) := by decide +kernel
theorem d_S_findNewestPages_52 : decode b_S_findNewestPages 52 = .ok (.idiv, 1) := by decide +kernel
theorem d_S_findNewestPages_53 : decode b_S_findNewestPages 53 = .ok (.istore_n 3, 1) := by decide +kernel
theorem d_S_findNewestPages_54 : decode b_S_findNewestPages 54 = .ok (.aload_n 0, 1) := by decide +kernel
theorem d_S_findNewestPages_55 : decode b_S_findNewestPages 55 = .ok (.getfield 18, 3) := by decide +kernel
theorem d_S_findNewestPages_58 : decode b_S_findNewestPages 58 = .ok (.iload_n 3, 1) := by decide +kernel
theorem d_S_findNewestPages_59 : decode b_S_findNewestPages 59 = .ok (.aload_n 0, 1) := by decide +kernel
theorem d_S_findNewestPages_60 : decode b_S_findNewestPages 60 = .ok (.aload_n 0, 1) := by decide +kernel
theorem d_S_findNewestPages_61 : decode b_S_findNewestPages 61 = .ok (.getfield 18, 3) := by decide +kernel
theorem d_S_findNewestPages_64 : decode b_S_findNewestPages 64 = .ok (.iload_n 3, 1) := by decide +kernel
theorem d_S_findNewestPages_65 : decode b_S_findNewestPages 65 = .ok (.iaload, 1) := by decide +kernel
theorem d_S_findNewestPages_66 : decode b_S_findNewestPages 66 = .ok (.iload_n 2, 1) := by decide +kernel
theorem d_S_findNewestPages_67 : decode b_S_findNewestPages 67 = .ok (.invokevirtual 123, 3) := by decide +kernel
theorem d_S_findNewestPages_70 : decode b_S_findNewestPages 70 = .ok (.iastore, 1) := by decide +kernel
theorem d_S_findNewestPages_71 : decode b_S_findNewestPages 71 = .ok (.aload_n 0, 1) := by decide +kernel
theorem d_S_findNewestPages_72 : decode b_S_findNewestPages 72 = .ok (.iload_n 1, 1) := by decide +kernel
theorem d_S_findNewestPages_73 : decode b_S_findNewestPages 73 = .ok (.iload_n 2, 1) := by decide +kernel
theorem d_S_findNewestPages_74 : decode b_S_findNewestPages 74 = .ok (.invokevirtual 123, 3) := by decide +kernel
theorem d_S_findNewestPages_77 : decode b_S_findNewestPages 77 = .ok (.istore_n 1, 1) := by decide +kernel
theorem d_S_findNewestPages_78 : decode b_S_findNewestPages 78 = .ok (.iinc 2 1, 3) := by decide +kernel
theorem d_S_findNewestPages_81 : decode b_S_findNewestPages 81 = .ok (.goto (-56), 3) := by decide +kernel
theorem d_S_findNewestPages_84 : decode b_S_findNewestPages 84 = .ok (.iload_n 1, 1) := by decide +kernel
theorem d_S_findNewestPages_85 : decode b_S_findNewestPages 85 = .ok (.ireturn, 1) := by decide +kernel
theorem d_S_restore_0 : decode b_S_restore 0 = .ok (.aload_n 0, 1) := by decide +kernel
theorem d_S_restore_1 : decode b_S_restore 1 = .ok (.invokevirtual 110, 3) := by decide +kernel
theorem d_S_restore_4 : decode b_S_restore 4 = .ok (.istore_n 2, 1) := by decide +kernel
theorem d_S_restore_5 : decode b_S_restore 5 = .ok (.aload_n 0, 1) := by decide +kernel
theorem d_S_restore_6 : decode b_S_restore 6 = .ok (.iload_n 2, 1) := by decide +kernel
theorem d_S_restore_7 : decode b_S_restore 7 = .ok (.iconst (-1), 1) := by decide +kernel
theorem d_S_restore_8 : decode b_S_restore 8 = .ok (.if_icmp .ne (7), 3) := by decide +kernel
theorem d_S_restore_11 : decode b_S_restore 11 = .ok (.iconst (-1), 1) := by decide +kernel
theorem d_S_restore_12 : decode b_S_restore 12 = .ok (.goto (6), 3) := by decide +kernel
theorem d_S_restore_15 : decode b_S_restore 15 = .ok (.iload_n 2, 1) := by decide +kernel
theorem d_S_restore_16 : decode b_S_restore 16 = .ok (.iconst 4, 1) := by decide +kernel
theorem d_S_restore_17 : decode b_S_restore 17 = .ok (.idiv, 1) := by decide +kernel
theorem d_S_restore_18 : decode b_S_restore 18 = .ok (.putfield 25, 3) := by decide +kernel
theorem d_S_restore_21 : decode b_S_restore 21 = .ok (.aload_n 0, 1) := by decide +kernel
theorem d_S_restore_22 : decode b_S_restore 22 = .ok (.iload_n 2, 1) := by decide +kernel
theorem d_S_restore_23 : decode b_S_restore 23 = .ok (.iconst (-1), 1) := by decide +kernel
theorem d_S_restore_24 : decode b_S_restore 24 = .ok (.if_icmp .ne (7), 3) := by decide +kernel
theorem d_S_restore_27 : decode b_S_restore 27 = .ok (.iconst 0, 1) := by decide +kernel
theorem d_S_restore_28 : decode b_S_restore 28 = .ok (.goto (12), 3) := by decide +kernel
theorem d_S_restore_31 : decode b_S_restore 31 = .ok (.aload_n 0, 1) := by decide +kernel
theorem d_S_restore_32 : decode b_S_restore 32 = .ok (.getfield 12, 3) := by decide +kernel
theorem d_S_restore_35 : decode b_S_restore 35 = .ok (.iload_n 2, 1) := by decide +kernel
theorem d_S_restore_36 : decode b_S_restore 36 = .ok (.iconst 1, 1) := by decide +kernel
theorem d_S_restore_37 : decode b_S_restore 37 = .ok (.invokevirtual 85, 3) := by decide +kernel
theorem d_S_restore_40 : decode b_S_restore 40 = .ok (.putfield 29, 3) := by decide +kernel
theorem d_S_restore_43 : decode b_S_restore 43 = .ok (.aload_n 0, 1) := by decide +kernel
theorem d_S_restore_44 : decode b_S_restore 44 = .ok (.iconst 0, 1) := by decide +kernel
theorem d_S_restore_45 : decode b_S_restore 45 = .ok (.putfield 35, 3) := by decide +kernel
theorem d_S_restore_48 : decode b_S_restore 48 = .ok (.aload_n 1, 1) := by decide +kernel
theorem d_S_restore_49 : decode b_S_restore 49 = .ok (.invokevirtual 113, 3) := by decide +kernel
theorem d_S_restore_52 : decode b_S_restore 52 = .ok (.iconst 1, 1) := by decide +kernel
theorem d_S_restore_53 : decode b_S_restore 53 = .ok (.istore_n 3, 1) := by decide +kernel
theorem d_S_restore_54 : decode b_S_restore 54 = .ok (.iconst 0, 1) := by decide +kernel
theorem d_S_restore_55 : decode b_S_restore 55 = .ok (.istore 4, 2) := by decide +kernel
theorem d_S_restore_57 : decode b_S_restore 57 = .ok (.iload 4, 2) := by decide +kernel
theorem d_S_restore_59 : decode b_S_restore 59 = .ok (.bipush 16, 2) := by decide +kernel
theorem d_S_restore_61 : decode b_S_restore 61 = .ok (.if_icmp .ge (67), 3) := by decide +kernel
theorem d_S_restore_64 : decode b_S_restore 64 = .ok (.iload_n 3, 1) := by decide +kernel
theorem d_S_restore_65 : decode b_S_restore 65 = .ok (.ifCond .eq (18), 3) := by decide +kernel
theorem d_S_restore_68 : decode b_S_restore 68 = .ok (.aload_n 0, 1) := by decide +kernel
theorem d_S_restore_69 : decode b_S_restore 69 = .ok (.getfield 18, 3) := by decide +kernel
theorem d_S_restore_72 : decode b_S_restore 72 = .ok (.iload 4, 2) := by decide +kernel
theorem d_S_restore_74 : decode b_S_restore 74 = .ok (.iaload, 1) := by decide +kernel
theorem d_S_restore_75 : decode b_S_restore 75 = .ok (.iconst (-1), 1) := by decide +kernel
theorem d_S_restore_76 : decode b_S_restore 76 = .ok (.if_icmp .eq (7), 3) := by decide +kernel
theorem d_S_restore_79 : decode b_S_restore 79 = .ok (.iconst 1, 1) := by decide +kernel
theorem d_S_restore_80 : decode b_S_restore 80 = .ok (.goto (4), 3) := by decide +kernel
theorem d_S_restore_83 : decode b_S_restore 83 = .ok (.iconst 0, 1) := by decide +kernel
theorem d_S_restore_84 : decode b_S_restore 84 = .ok (.istore_n 3, 1) := by decide +kernel
theorem d_S_restore_85 : decode b_S_restore 85 = .ok (.iload_n 3, 1) := by decide +kernel
theorem d_S_restore_86 : decode b_S_restore 86 = .ok (.ifCond .eq (28), 3) := by decide +kernel
theorem d_S_restore_89 : decode b_S_restore 89 = .ok (.aload_n 0, 1) := by decide +kernel
theorem d_S_restore_90 : decode b_S_restore 90 = .ok (.aload_n 1, 1) := by decide +kernel
theorem d_S_restore_91 : decode b_S_restore 91 = .ok (.aload_n 0, 1) := by decide +kernel
theorem d_S_restore_92 : decode b_S_restore 92 = .ok (.getfield 18, 3) := by decide +kernel
theorem d_S_restore_95 : decode b_S_restore 95 = .ok (.iload 4, 2) := by decide +kernel
theorem d_S_restore_97 : decode b_S_restore 97 = .ok (.iaload, 1) := by decide +kernel
theorem d_S_restore_98 : decode b_S_restore 98 = .ok (.invokevirtual 116, 3) := by decide +kernel
theorem d_S_restore_101 : decode b_S_restore 101 = .ok (.iconst 3, 1) := by decide +kernel
theorem d_S_restore_102 : decode b_S_restore 102 = .ok (.if_icmp .ne (7), 3) := by decide +kernel
theorem d_S_restore_105 : decode b_S_restore 105 = .ok (.iconst 1, 1) := by decide +kernel
theorem d_S_restore_106 : decode b_S_restore 106 = .ok (.goto (4), 3) := by decide +kernel
theorem d_S_restore_109 : decode b_S_restore 109 = .ok (.iconst 0, 1) := by decide +kernel
theorem d_S_restore_110 : decode b_S_restore 110 = .ok (.istore_n 3, 1) := by decide +kernel
theorem d_S_restore_111 : decode b_S_restore 111 = .ok (.goto (11), 3) := by decide +kernel
theorem d_S_restore_114 : decode b_S_restore 114 = .ok (.aload_n 0, 1) := by decide +kernel
theorem d_S_restore_115 : decode b_S_restore 115 = .ok (.getfield 18, 3) := by decide +kernel
theorem d_S_restore_118 : decode b_S_restore 118 = .ok (.iload 4, 2) := by decide +kernel
theorem d_S_restore_120 : decode b_S_restore 120 = .ok (.iconst (-1), 1) := by decide +kernel
theorem d_S_restore_121 : decode b_S_restore 121 = .ok (.iastore, 1) := by decide +kernel
theorem d_S_restore_122 : decode b_S_restore 122 = .ok (.iinc 4 1, 3) := by decide +kernel
theorem d_S_restore_125 : decode b_S_restore 125 = .ok (.goto (-68), 3) := by decide +kernel
theorem d_S_restore_128 : decode b_S_restore 128 = .ok (.aload_n 0, 1) := by decide +kernel
theorem d_S_restore_129 : decode b_S_restore 129 = .ok (.aload_n 1, 1) := by decide +kernel
theorem d_S_restore_130 : decode b_S_restore 130 = .ok (.invokevirtual 96, 3) := by decide +kernel
theorem d_S_restore_133 : decode b_S_restore 133 = .ok (.putfield 32, 3) := by decide +kernel
theorem d_S_restore_136 : decode b_S_restore 136 = .ok (.return_, 1) := by decide +kernel
theorem d_R_forgetReadings_0 : decode b_R_forgetReadings 0 = .ok (.aload_n 0, 1) := by decide +kernel
theorem d_R_forgetReadings_1 : decode b_R_forgetReadings 1 = .ok (.iconst 0, 1) := by decide +kernel
theorem d_R_forgetReadings_2 : decode b_R_forgetReadings 2 = .ok (.putfield 41, 3) := by decide +kernel
theorem d_R_forgetReadings_5 : decode b_R_forgetReadings 5 = .ok (.aload_n 0, 1) := by decide +kernel
theorem d_R_forgetReadings_6 : decode b_R_forgetReadings 6 = .ok (.iconst 0, 1) := by decide +kernel
theorem d_R_forgetReadings_7 : decode b_R_forgetReadings 7 = .ok (.putfield 45, 3) := by decide +kernel
theorem d_R_forgetReadings_10 : decode b_R_forgetReadings 10 = .ok (.return_, 1) := by decide +kernel
theorem d_R_crash_0 : decode b_R_crash 0 = .ok (.aload_n 0, 1) := by decide +kernel
theorem d_R_crash_1 : decode b_R_crash 1 = .ok (.getfield 20, 3) := by decide +kernel
theorem d_R_crash_4 : decode b_R_crash 4 = .ok (.invokevirtual 162, 3) := by decide +kernel
theorem d_R_crash_7 : decode b_R_crash 7 = .ok (.return_, 1) := by decide +kernel
theorem d_R_mount_0 : decode b_R_mount 0 = .ok (.aload_n 0, 1) := by decide +kernel
theorem d_R_mount_1 : decode b_R_mount 1 = .ok (.getfield 20, 3) := by decide +kernel
theorem d_R_mount_4 : decode b_R_mount 4 = .ok (.invokevirtual 162, 3) := by decide +kernel
theorem d_R_mount_7 : decode b_R_mount 7 = .ok (.aload_n 0, 1) := by decide +kernel
theorem d_R_mount_8 : decode b_R_mount 8 = .ok (.invokevirtual 78, 3) := by decide +kernel
theorem d_R_mount_11 : decode b_R_mount 11 = .ok (.aload_n 0, 1) := by decide +kernel
theorem d_R_mount_12 : decode b_R_mount 12 = .ok (.getfield 12, 3) := by decide +kernel
theorem d_R_mount_15 : decode b_R_mount 15 = .ok (.aload_n 0, 1) := by decide +kernel
theorem d_R_mount_16 : decode b_R_mount 16 = .ok (.getfield 26, 3) := by decide +kernel
theorem d_R_mount_19 : decode b_R_mount 19 = .ok (.invokevirtual 165, 3) := by decide +kernel
theorem d_R_mount_22 : decode b_R_mount 22 = .ok (.aload_n 0, 1) := by decide +kernel
theorem d_R_mount_23 : decode b_R_mount 23 = .ok (.getfield 20, 3) := by decide +kernel
theorem d_R_mount_26 : decode b_R_mount 26 = .ok (.invokevirtual 169, 3) := by decide +kernel
theorem d_R_mount_29 : decode b_R_mount 29 = .ok (.aload_n 0, 1) := by decide +kernel
theorem d_R_mount_30 : decode b_R_mount 30 = .ok (.getfield 26, 3) := by decide +kernel
theorem d_R_mount_33 : decode b_R_mount 33 = .ok (.invokevirtual 81, 3) := by decide +kernel
theorem d_R_mount_36 : decode b_R_mount 36 = .ok (.ireturn, 1) := by decide +kernel
theorem d_M_thrown_0 : decode b_M_thrown 0 = .ok (.aload_n 0, 1) := by decide +kernel
theorem d_M_thrown_1 : decode b_M_thrown 1 = .ok (.getfield 49, 3) := by decide +kernel
theorem d_M_thrown_4 : decode b_M_thrown 4 = .ok (.ireturn, 1) := by decide +kernel
theorem d_M_isIn_0 : decode b_M_isIn 0 = .ok (.iload_n 0, 1) := by decide +kernel
theorem d_M_isIn_1 : decode b_M_isIn 1 = .ok (.iload_n 1, 1) := by decide +kernel
theorem d_M_isIn_2 : decode b_M_isIn 2 = .ok (.if_icmp .lt (12), 3) := by decide +kernel
theorem d_M_isIn_5 : decode b_M_isIn 5 = .ok (.iload_n 0, 1) := by decide +kernel
theorem d_M_isIn_6 : decode b_M_isIn 6 = .ok (.iload_n 2, 1) := by decide +kernel
theorem d_M_isIn_7 : decode b_M_isIn 7 = .ok (.if_icmp .gt (7), 3) := by decide +kernel
theorem d_M_isIn_10 : decode b_M_isIn 10 = .ok (.iconst 1, 1) := by decide +kernel
theorem d_M_isIn_11 : decode b_M_isIn 11 = .ok (.goto (4), 3) := by decide +kernel
theorem d_M_isIn_14 : decode b_M_isIn 14 = .ok (.iconst 0, 1) := by decide +kernel
theorem d_M_isIn_15 : decode b_M_isIn 15 = .ok (.ireturn, 1) := by decide +kernel
theorem d_R_isWithin_0 : decode b_R_isWithin 0 = .ok (.iload_n 0, 1) := by decide +kernel
theorem d_R_isWithin_1 : decode b_R_isWithin 1 = .ok (.iload_n 1, 1) := by decide +kernel
theorem d_R_isWithin_2 : decode b_R_isWithin 2 = .ok (.if_icmp .lt (12), 3) := by decide +kernel
theorem d_R_isWithin_5 : decode b_R_isWithin 5 = .ok (.iload_n 0, 1) := by decide +kernel
theorem d_R_isWithin_6 : decode b_R_isWithin 6 = .ok (.iload_n 2, 1) := by decide +kernel
theorem d_R_isWithin_7 : decode b_R_isWithin 7 = .ok (.if_icmp .gt (7), 3) := by decide +kernel
theorem d_R_isWithin_10 : decode b_R_isWithin 10 = .ok (.iconst 1, 1) := by decide +kernel
theorem d_R_isWithin_11 : decode b_R_isWithin 11 = .ok (.goto (4), 3) := by decide +kernel
theorem d_R_isWithin_14 : decode b_R_isWithin 14 = .ok (.iconst 0, 1) := by decide +kernel
theorem d_R_isWithin_15 : decode b_R_isWithin 15 = .ok (.ireturn, 1) := by decide +kernel
theorem d_M_fails_0 : decode b_M_fails 0 = .ok (.aload_n 0, 1) := by decide +kernel
theorem d_M_fails_1 : decode b_M_fails 1 = .ok (.iload_n 2, 1) := by decide +kernel
theorem d_M_fails_2 : decode b_M_fails 2 = .ok (.ifCond .eq (7), 3) := by decide +kernel
theorem d_M_fails_5 : decode b_M_fails 5 = .ok (.iload_n 1, 1) := by decide +kernel
theorem d_M_fails_6 : decode b_M_fails 6 = .ok (.goto (4), 3) := by decide +kernel
theorem d_M_fails_9 : decode b_M_fails 9 = .ok (.iconst 0, 1) := by decide +kernel
theorem d_M_fails_10 : decode b_M_fails 10 = .ok (.putfield 49, 3) := by decide +kernel
theorem d_M_fails_13 : decode b_M_fails 13 = .ok (.iload_n 2, 1) := by decide +kernel
theorem d_M_fails_14 : decode b_M_fails 14 = .ok (.ireturn, 1) := by decide +kernel
theorem d_M_forget_0 : decode b_M_forget 0 = .ok (.aload_n 0, 1) := by decide +kernel
theorem d_M_forget_1 : decode b_M_forget 1 = .ok (.iconst 0, 1) := by decide +kernel
theorem d_M_forget_2 : decode b_M_forget 2 = .ok (.putfield 52, 3) := by decide +kernel
theorem d_M_forget_5 : decode b_M_forget 5 = .ok (.iconst 0, 1) := by decide +kernel
theorem d_M_forget_6 : decode b_M_forget 6 = .ok (.istore_n 1, 1) := by decide +kernel
theorem d_M_forget_7 : decode b_M_forget 7 = .ok (.iload_n 1, 1) := by decide +kernel
theorem d_M_forget_8 : decode b_M_forget 8 = .ok (.bipush 16, 2) := by decide +kernel
theorem d_M_forget_10 : decode b_M_forget 10 = .ok (.if_icmp .ge (16), 3) := by decide +kernel
theorem d_M_forget_13 : decode b_M_forget 13 = .ok (.aload_n 0, 1) := by decide +kernel
theorem d_M_forget_14 : decode b_M_forget 14 = .ok (.getfield 34, 3) := by decide +kernel
theorem d_M_forget_17 : decode b_M_forget 17 = .ok (.iload_n 1, 1) := by decide +kernel
theorem d_M_forget_18 : decode b_M_forget 18 = .ok (.iconst (-1), 1) := by decide +kernel
theorem d_M_forget_19 : decode b_M_forget 19 = .ok (.iastore, 1) := by decide +kernel
theorem d_M_forget_20 : decode b_M_forget 20 = .ok (.iinc 1 1, 3) := by decide +kernel
theorem d_M_forget_23 : decode b_M_forget 23 = .ok (.goto (-16), 3) := by decide +kernel
theorem d_M_forget_26 : decode b_M_forget 26 = .ok (.aload_n 0, 1) := by decide +kernel
theorem d_M_forget_27 : decode b_M_forget 27 = .ok (.iconst 0, 1) := by decide +kernel
theorem d_M_forget_28 : decode b_M_forget 28 = .ok (.putfield 55, 3) := by decide +kernel
theorem d_M_forget_31 : decode b_M_forget 31 = .ok (.aload_n 0, 1) := by decide +kernel
theorem d_M_forget_32 : decode b_M_forget 32 = .ok (.iconst (-1), 1) := by decide +kernel
theorem d_M_forget_33 : decode b_M_forget 33 = .ok (.putfield 40, 3) := by decide +kernel
theorem d_M_forget_36 : decode b_M_forget 36 = .ok (.aload_n 0, 1) := by decide +kernel
theorem d_M_forget_37 : decode b_M_forget 37 = .ok (.iconst 0, 1) := by decide +kernel
theorem d_M_forget_38 : decode b_M_forget 38 = .ok (.putfield 58, 3) := by decide +kernel
theorem d_M_forget_41 : decode b_M_forget 41 = .ok (.aload_n 0, 1) := by decide +kernel
theorem d_M_forget_42 : decode b_M_forget 42 = .ok (.iconst 0, 1) := by decide +kernel
theorem d_M_forget_43 : decode b_M_forget 43 = .ok (.putfield 61, 3) := by decide +kernel
theorem d_M_forget_46 : decode b_M_forget 46 = .ok (.aload_n 0, 1) := by decide +kernel
theorem d_M_forget_47 : decode b_M_forget 47 = .ok (.iconst 0, 1) := by decide +kernel
theorem d_M_forget_48 : decode b_M_forget 48 = .ok (.putfield 64, 3) := by decide +kernel
theorem d_M_forget_51 : decode b_M_forget 51 = .ok (.aload_n 0, 1) := by decide +kernel
theorem d_M_forget_52 : decode b_M_forget 52 = .ok (.iconst (-1), 1) := by decide +kernel
theorem d_M_forget_53 : decode b_M_forget 53 = .ok (.putfield 27, 3) := by decide +kernel
theorem d_M_forget_56 : decode b_M_forget 56 = .ok (.return_, 1) := by decide +kernel
theorem d_M_off_0 : decode b_M_off 0 = .ok (.aload_n 0, 1) := by decide +kernel
theorem d_M_off_1 : decode b_M_off 1 = .ok (.iconst 0, 1) := by decide +kernel
theorem d_M_off_2 : decode b_M_off 2 = .ok (.putfield 23, 3) := by decide +kernel
theorem d_M_off_5 : decode b_M_off 5 = .ok (.aload_n 0, 1) := by decide +kernel
theorem d_M_off_6 : decode b_M_off 6 = .ok (.invokevirtual 46, 3) := by decide +kernel
theorem d_M_off_9 : decode b_M_off 9 = .ok (.return_, 1) := by decide +kernel
theorem d_M_isFree_0 : decode b_M_isFree 0 = .ok (.iconst 1, 1) := by decide +kernel
theorem d_M_isFree_1 : decode b_M_isFree 1 = .ok (.istore_n 2, 1) := by decide +kernel
theorem d_M_isFree_2 : decode b_M_isFree 2 = .ok (.iconst 0, 1) := by decide +kernel
theorem d_M_isFree_3 : decode b_M_isFree 3 = .ok (.istore_n 3, 1) := by decide +kernel
theorem d_M_isFree_4 : decode b_M_isFree 4 = .ok (.iload_n 3, 1) := by decide +kernel
theorem d_M_isFree_5 : decode b_M_isFree 5 = .ok (.bipush 16, 2) := by decide +kernel
theorem d_M_isFree_7 : decode b_M_isFree 7 = .ok (.if_icmp .ge (34), 3) := by decide +kernel
theorem d_M_isFree_10 : decode b_M_isFree 10 = .ok (.iload_n 2, 1) := by decide +kernel
theorem d_M_isFree_11 : decode b_M_isFree 11 = .ok (.ifCond .eq (22), 3) := by decide +kernel
theorem d_M_isFree_14 : decode b_M_isFree 14 = .ok (.aload_n 0, 1) := by decide +kernel
theorem d_M_isFree_15 : decode b_M_isFree 15 = .ok (.getfield 7, 3) := by decide +kernel
theorem d_M_isFree_18 : decode b_M_isFree 18 = .ok (.bipush 16, 2) := by decide +kernel
theorem d_M_isFree_20 : decode b_M_isFree 20 = .ok (.iload_n 1, 1) := by decide +kernel
theorem d_M_isFree_21 : decode b_M_isFree 21 = .ok (.imul, 1) := by decide +kernel
theorem d_M_isFree_22 : decode b_M_isFree 22 = .ok (.iload_n 3, 1) := by decide +kernel
theorem d_M_isFree_23 : decode b_M_isFree 23 = .ok (.iadd, 1) := by decide +kernel
theorem d_M_isFree_24 : decode b_M_isFree 24 = .ok (.iaload, 1) := by decide +kernel
theorem d_M_isFree_25 : decode b_M_isFree 25 = .ok (.iconst (-1), 1) := by decide +kernel
theorem d_M_isFree_26 : decode b_M_isFree 26 = .ok (.if_icmp .ne (7), 3) := by decide +kernel
theorem d_M_isFree_29 : decode b_M_isFree 29 = .ok (.iconst 1, 1) := by decide +kernel
theorem d_M_isFree_30 : decode b_M_isFree 30 = .ok (.goto (4), 3) := by decide +kernel
theorem d_M_isFree_33 : decode b_M_isFree 33 = .ok (.iconst 0, 1) := by decide +kernel
theorem d_M_isFree_34 : decode b_M_isFree 34 = .ok (.istore_n 2, 1) := by decide +kernel
theorem d_M_isFree_35 : decode b_M_isFree 35 = .ok (.iinc 3 1, 3) := by decide +kernel
theorem d_M_isFree_38 : decode b_M_isFree 38 = .ok (.goto (-34), 3) := by decide +kernel
theorem d_M_isFree_41 : decode b_M_isFree 41 = .ok (.iload_n 2, 1) := by decide +kernel
theorem d_M_isFree_42 : decode b_M_isFree 42 = .ok (.ireturn, 1) := by decide +kernel
theorem d_M_isRight_0 : decode b_M_isRight 0 = .ok (.aload_n 0, 1) := by decide +kernel
theorem d_M_isRight_1 : decode b_M_isRight 1 = .ok (.getfield 7, 3) := by decide +kernel
theorem d_M_isRight_4 : decode b_M_isRight 4 = .ok (.bipush 16, 2) := by decide +kernel
theorem d_M_isRight_6 : decode b_M_isRight 6 = .ok (.iload_n 1, 1) := by decide +kernel
theorem d_M_isRight_7 : decode b_M_isRight 7 = .ok (.imul, 1) := by decide +kernel
theorem d_M_isRight_8 : decode b_M_isRight 8 = .ok (.iaload, 1) := by decide +kernel
theorem d_M_isRight_9 : decode b_M_isRight 9 = .ok (.istore_n 2, 1) := by decide +kernel
theorem d_M_isRight_10 : decode b_M_isRight 10 = .ok (.iload_n 2, 1) := by decide +kernel
theorem d_M_isRight_11 : decode b_M_isRight 11 = .ok (.ifCond .lt (65), 3) := by decide +kernel
theorem d_M_isRight_14 : decode b_M_isRight 14 = .ok (.iload_n 2, 1) := by decide +kernel
theorem d_M_isRight_15 : decode b_M_isRight 15 = .ok (.bipush 64, 2) := by decide +kernel
theorem d_M_isRight_17 : decode b_M_isRight 17 = .ok (.if_icmp .ge (59), 3) := by decide +kernel
theorem d_M_isRight_20 : decode b_M_isRight 20 = .ok (.iload_n 2, 1) := by decide +kernel
theorem d_M_isRight_21 : decode b_M_isRight 21 = .ok (.iconst 4, 1) := by decide +kernel
theorem d_M_isRight_22 : decode b_M_isRight 22 = .ok (.irem, 1) := by decide +kernel
theorem d_M_isRight_23 : decode b_M_isRight 23 = .ok (.ifCond .le (53), 3) := by decide +kernel
theorem d_M_isRight_26 : decode b_M_isRight 26 = .ok (.aload_n 0, 1) := by decide +kernel
theorem d_M_isRight_27 : decode b_M_isRight 27 = .ok (.getfield 7, 3) := by decide +kernel
theorem d_M_isRight_30 : decode b_M_isRight 30 = .ok (.bipush 16, 2) := by decide +kernel
theorem d_M_isRight_32 : decode b_M_isRight 32 = .ok (.iload_n 1, 1) := by decide +kernel
theorem d_M_isRight_33 : decode b_M_isRight 33 = .ok (.imul, 1) := by decide +kernel
theorem d_M_isRight_34 : decode b_M_isRight 34 = .ok (.bipush 15, 2) := by decide +kernel
theorem d_M_isRight_36 : decode b_M_isRight 36 = .ok (.iadd, 1) := by decide +kernel
theorem d_M_isRight_37 : decode b_M_isRight 37 = .ok (.iaload, 1) := by decide +kernel
theorem d_M_isRight_38 : decode b_M_isRight 38 = .ok (.ldc 75, 2) := by decide +kernel
theorem d_M_isRight_40 : decode b_M_isRight 40 = .ok (.if_icmp .ne (36), 3) := by decide +kernel
theorem d_M_isRight_43 : decode b_M_isRight 43 = .ok (.aload_n 0, 1) := by decide +kernel
theorem d_M_isRight_44 : decode b_M_isRight 44 = .ok (.getfield 7, 3) := by decide +kernel
theorem d_M_isRight_47 : decode b_M_isRight 47 = .ok (.bipush 16, 2) := by decide +kernel
theorem d_M_isRight_49 : decode b_M_isRight 49 = .ok (.iload_n 1, 1) := by decide +kernel
theorem d_M_isRight_50 : decode b_M_isRight 50 = .ok (.imul, 1) := by decide +kernel
theorem d_M_isRight_51 : decode b_M_isRight 51 = .ok (.bipush 14, 2) := by decide +kernel
theorem d_M_isRight_53 : decode b_M_isRight 53 = .ok (.iadd, 1) := by decide +kernel
theorem d_M_isRight_54 : decode b_M_isRight 54 = .ok (.iaload, 1) := by decide +kernel
theorem d_M_isRight_55 : decode b_M_isRight 55 = .ok (.aload_n 0, 1) := by decide +kernel
theorem d_M_isRight_56 : decode b_M_isRight 56 = .ok (.aload_n 0, 1) := by decide +kernel
theorem d_M_isRight_57 : decode b_M_isRight 57 = .ok (.getfield 7, 3) := by decide +kernel
theorem d_M_isRight_60 : decode b_M_isRight 60 = .ok (.bipush 16, 2) := by decide +kernel
theorem d_M_isRight_62 : decode b_M_isRight 62 = .ok (.iload_n 1, 1) := by decide +kernel
theorem d_M_isRight_63 : decode b_M_isRight 63 = .ok (.imul, 1) := by decide +kernel
theorem d_M_isRight_64 : decode b_M_isRight 64 = .ok (.bipush 14, 2) := by decide +kernel
theorem d_M_isRight_66 : decode b_M_isRight 66 = .ok (.invokevirtual 76, 3) := by decide +kernel
theorem d_M_isRight_69 : decode b_M_isRight 69 = .ok (.if_icmp .ne (7), 3) := by decide +kernel
theorem d_M_isRight_72 : decode b_M_isRight 72 = .ok (.iconst 1, 1) := by decide +kernel
theorem d_M_isRight_73 : decode b_M_isRight 73 = .ok (.goto (4), 3) := by decide +kernel
theorem d_M_isRight_76 : decode b_M_isRight 76 = .ok (.iconst 0, 1) := by decide +kernel
theorem d_M_isRight_77 : decode b_M_isRight 77 = .ok (.ireturn, 1) := by decide +kernel
theorem d_M_placeOf_0 : decode b_M_placeOf 0 = .ok (.iconst 0, 1) := by decide +kernel
theorem d_M_placeOf_1 : decode b_M_placeOf 1 = .ok (.istore_n 2, 1) := by decide +kernel
theorem d_M_placeOf_2 : decode b_M_placeOf 2 = .ok (.iconst 0, 1) := by decide +kernel
theorem d_M_placeOf_3 : decode b_M_placeOf 3 = .ok (.istore_n 3, 1) := by decide +kernel
theorem d_M_placeOf_4 : decode b_M_placeOf 4 = .ok (.iload_n 3, 1) := by decide +kernel
theorem d_M_placeOf_5 : decode b_M_placeOf 5 = .ok (.aload_n 0, 1) := by decide +kernel
theorem d_M_placeOf_6 : decode b_M_placeOf 6 = .ok (.getfield 52, 3) := by decide +kernel
theorem d_M_placeOf_9 : decode b_M_placeOf 9 = .ok (.if_icmp .ge (30), 3) := by decide +kernel
theorem d_M_placeOf_12 : decode b_M_placeOf 12 = .ok (.aload_n 0, 1) := by decide +kernel
theorem d_M_placeOf_13 : decode b_M_placeOf 13 = .ok (.iload_n 3, 1) := by decide +kernel
theorem d_M_placeOf_14 : decode b_M_placeOf 14 = .ok (.invokevirtual 124, 3) := by decide +kernel
theorem d_M_placeOf_17 : decode b_M_placeOf 17 = .ok (.ifCond .eq (6), 3) := by decide +kernel
theorem d_M_placeOf_20 : decode b_M_placeOf 20 = .ok (.goto (13), 3) := by decide +kernel
theorem d_M_placeOf_23 : decode b_M_placeOf 23 = .ok (.iinc 2 1, 3) := by decide +kernel
theorem d_M_placeOf_26 : decode b_M_placeOf 26 = .ok (.iload_n 2, 1) := by decide +kernel
theorem d_M_placeOf_27 : decode b_M_placeOf 27 = .ok (.iload_n 1, 1) := by decide +kernel
theorem d_M_placeOf_28 : decode b_M_placeOf 28 = .ok (.if_icmp .ne (5), 3) := by decide +kernel
theorem d_M_placeOf_31 : decode b_M_placeOf 31 = .ok (.iload_n 3, 1) := by decide +kernel
theorem d_M_placeOf_32 : decode b_M_placeOf 32 = .ok (.ireturn, 1) := by decide +kernel
theorem d_M_placeOf_33 : decode b_M_placeOf 33 = .ok (.iinc 3 1, 3) := by decide +kernel
theorem d_M_placeOf_36 : decode b_M_placeOf 36 = .ok (.goto (-32), 3) := by decide +kernel
theorem d_M_placeOf_39 : decode b_M_placeOf 39 = .ok (.iconst (-1), 1) := by decide +kernel
theorem d_M_placeOf_40 : decode b_M_placeOf 40 = .ok (.ireturn, 1) := by decide +kernel
theorem d_M_tickets_0 : decode b_M_tickets 0 = .ok (.iconst 0, 1) := by decide +kernel
theorem d_M_tickets_1 : decode b_M_tickets 1 = .ok (.istore_n 1, 1) := by decide +kernel
theorem d_M_tickets_2 : decode b_M_tickets 2 = .ok (.iconst 0, 1) := by decide +kernel
theorem d_M_tickets_3 : decode b_M_tickets 3 = .ok (.istore_n 2, 1) := by decide +kernel
theorem d_M_tickets_4 : decode b_M_tickets 4 = .ok (.iload_n 2, 1) := by decide +kernel
theorem d_M_tickets_5 : decode b_M_tickets 5 = .ok (.aload_n 0, 1) := by decide +kernel
theorem d_M_tickets_6 : decode b_M_tickets 6 = .ok (.getfield 52, 3) := by decide +kernel
theorem d_M_tickets_9 : decode b_M_tickets 9 = .ok (.if_icmp .ge (25), 3) := by decide +kernel
theorem d_M_tickets_12 : decode b_M_tickets 12 = .ok (.iload_n 1, 1) := by decide +kernel
theorem d_M_tickets_13 : decode b_M_tickets 13 = .ok (.aload_n 0, 1) := by decide +kernel
theorem d_M_tickets_14 : decode b_M_tickets 14 = .ok (.iload_n 2, 1) := by decide +kernel
theorem d_M_tickets_15 : decode b_M_tickets 15 = .ok (.invokevirtual 124, 3) := by decide +kernel
theorem d_M_tickets_18 : decode b_M_tickets 18 = .ok (.ifCond .eq (7), 3) := by decide +kernel
theorem d_M_tickets_21 : decode b_M_tickets 21 = .ok (.iconst 0, 1) := by decide +kernel
theorem d_M_tickets_22 : decode b_M_tickets 22 = .ok (.goto (4), 3) := by decide +kernel
theorem d_M_tickets_25 : decode b_M_tickets 25 = .ok (.iconst 1, 1) := by decide +kernel
theorem d_M_tickets_26 : decode b_M_tickets 26 = .ok (.iadd, 1) := by decide +kernel
theorem d_M_tickets_27 : decode b_M_tickets 27 = .ok (.istore_n 1, 1) := by decide +kernel
theorem d_M_tickets_28 : decode b_M_tickets 28 = .ok (.iinc 2 1, 3) := by decide +kernel
theorem d_M_tickets_31 : decode b_M_tickets 31 = .ok (.goto (-27), 3) := by decide +kernel
theorem d_M_tickets_34 : decode b_M_tickets 34 = .ok (.iload_n 1, 1) := by decide +kernel
theorem d_M_tickets_35 : decode b_M_tickets 35 = .ok (.ireturn, 1) := by decide +kernel
theorem d_M_durable_0 : decode b_M_durable 0 = .ok (.iconst 0, 1) := by decide +kernel
theorem d_M_durable_1 : decode b_M_durable 1 = .ok (.istore_n 1, 1) := by decide +kernel
theorem d_M_durable_2 : decode b_M_durable 2 = .ok (.iconst 0, 1) := by decide +kernel
theorem d_M_durable_3 : decode b_M_durable 3 = .ok (.istore_n 2, 1) := by decide +kernel
theorem d_M_durable_4 : decode b_M_durable 4 = .ok (.iload_n 2, 1) := by decide +kernel
theorem d_M_durable_5 : decode b_M_durable 5 = .ok (.bipush 16, 2) := by decide +kernel
theorem d_M_durable_7 : decode b_M_durable 7 = .ok (.if_icmp .ge (31), 3) := by decide +kernel
theorem d_M_durable_10 : decode b_M_durable 10 = .ok (.iload_n 1, 1) := by decide +kernel
theorem d_M_durable_11 : decode b_M_durable 11 = .ok (.aload_n 0, 1) := by decide +kernel
theorem d_M_durable_12 : decode b_M_durable 12 = .ok (.getfield 34, 3) := by decide +kernel
theorem d_M_durable_15 : decode b_M_durable 15 = .ok (.iload_n 2, 1) := by decide +kernel
theorem d_M_durable_16 : decode b_M_durable 16 = .ok (.iaload, 1) := by decide +kernel
theorem d_M_durable_17 : decode b_M_durable 17 = .ok (.ifCond .lt (12), 3) := by decide +kernel
theorem d_M_durable_20 : decode b_M_durable 20 = .ok (.aload_n 0, 1) := by decide +kernel
theorem d_M_durable_21 : decode b_M_durable 21 = .ok (.getfield 37, 3) := by decide +kernel
theorem d_M_durable_24 : decode b_M_durable 24 = .ok (.iload_n 2, 1) := by decide +kernel
theorem d_M_durable_25 : decode b_M_durable 25 = .ok (.iaload, 1) := by decide +kernel
theorem d_M_durable_26 : decode b_M_durable 26 = .ok (.goto (4), 3) := by decide +kernel
theorem d_M_durable_29 : decode b_M_durable 29 = .ok (.iconst 0, 1) := by decide +kernel
theorem d_M_durable_30 : decode b_M_durable 30 = .ok (.iadd, 1) := by decide +kernel
theorem d_M_durable_31 : decode b_M_durable 31 = .ok (.istore_n 1, 1) := by decide +kernel
theorem d_M_durable_32 : decode b_M_durable 32 = .ok (.iinc 2 1, 3) := by decide +kernel
theorem d_M_durable_35 : decode b_M_durable 35 = .ok (.goto (-31), 3) := by decide +kernel
theorem d_M_durable_38 : decode b_M_durable 38 = .ok (.iload_n 1, 1) := by decide +kernel
theorem d_M_durable_39 : decode b_M_durable 39 = .ok (.ireturn, 1) := by decide +kernel
theorem d_M_liveCount_0 : decode b_M_liveCount 0 = .ok (.iconst 0, 1) := by decide +kernel
theorem d_M_liveCount_1 : decode b_M_liveCount 1 = .ok (.istore_n 1, 1) := by decide +kernel
theorem d_M_liveCount_2 : decode b_M_liveCount 2 = .ok (.iconst 0, 1) := by decide +kernel
theorem d_M_liveCount_3 : decode b_M_liveCount 3 = .ok (.istore_n 2, 1) := by decide +kernel
theorem d_M_liveCount_4 : decode b_M_liveCount 4 = .ok (.iload_n 2, 1) := by decide +kernel
theorem d_M_liveCount_5 : decode b_M_liveCount 5 = .ok (.bipush 16, 2) := by decide +kernel
theorem d_M_liveCount_7 : decode b_M_liveCount 7 = .ok (.if_icmp .ge (26), 3) := by decide +kernel
theorem d_M_liveCount_10 : decode b_M_liveCount 10 = .ok (.iload_n 1, 1) := by decide +kernel
theorem d_M_liveCount_11 : decode b_M_liveCount 11 = .ok (.aload_n 0, 1) := by decide +kernel
theorem d_M_liveCount_12 : decode b_M_liveCount 12 = .ok (.getfield 34, 3) := by decide +kernel
theorem d_M_liveCount_15 : decode b_M_liveCount 15 = .ok (.iload_n 2, 1) := by decide +kernel
theorem d_M_liveCount_16 : decode b_M_liveCount 16 = .ok (.iaload, 1) := by decide +kernel
theorem d_M_liveCount_17 : decode b_M_liveCount 17 = .ok (.ifCond .lt (7), 3) := by decide +kernel
theorem d_M_liveCount_20 : decode b_M_liveCount 20 = .ok (.iconst 1, 1) := by decide +kernel
theorem d_M_liveCount_21 : decode b_M_liveCount 21 = .ok (.goto (4), 3) := by decide +kernel
theorem d_M_liveCount_24 : decode b_M_liveCount 24 = .ok (.iconst 0, 1) := by decide +kernel
theorem d_M_liveCount_25 : decode b_M_liveCount 25 = .ok (.iadd, 1) := by decide +kernel
theorem d_M_liveCount_26 : decode b_M_liveCount 26 = .ok (.istore_n 1, 1) := by decide +kernel
theorem d_M_liveCount_27 : decode b_M_liveCount 27 = .ok (.iinc 2 1, 3) := by decide +kernel
theorem d_M_liveCount_30 : decode b_M_liveCount 30 = .ok (.goto (-26), 3) := by decide +kernel
theorem d_M_liveCount_33 : decode b_M_liveCount 33 = .ok (.iload_n 1, 1) := by decide +kernel
theorem d_M_liveCount_34 : decode b_M_liveCount 34 = .ok (.ireturn, 1) := by decide +kernel
theorem d_M_freePages_0 : decode b_M_freePages 0 = .ok (.iconst 0, 1) := by decide +kernel
theorem d_M_freePages_1 : decode b_M_freePages 1 = .ok (.istore_n 1, 1) := by decide +kernel
theorem d_M_freePages_2 : decode b_M_freePages 2 = .ok (.iconst 0, 1) := by decide +kernel
theorem d_M_freePages_3 : decode b_M_freePages 3 = .ok (.istore_n 2, 1) := by decide +kernel
theorem d_M_freePages_4 : decode b_M_freePages 4 = .ok (.iload_n 2, 1) := by decide +kernel
theorem d_M_freePages_5 : decode b_M_freePages 5 = .ok (.bipush 32, 2) := by decide +kernel
theorem d_M_freePages_7 : decode b_M_freePages 7 = .ok (.if_icmp .ge (36), 3) := by decide +kernel
theorem d_M_freePages_10 : decode b_M_freePages 10 = .ok (.iload_n 1, 1) := by decide +kernel
theorem d_M_freePages_11 : decode b_M_freePages 11 = .ok (.aload_n 0, 1) := by decide +kernel
theorem d_M_freePages_12 : decode b_M_freePages 12 = .ok (.iload_n 2, 1) := by decide +kernel
theorem d_M_freePages_13 : decode b_M_freePages 13 = .ok (.invokevirtual 80, 3) := by decide +kernel
theorem d_M_freePages_16 : decode b_M_freePages 16 = .ok (.ifCond .eq (18), 3) := by decide +kernel
theorem d_M_freePages_19 : decode b_M_freePages 19 = .ok (.aload_n 0, 1) := by decide +kernel
theorem d_M_freePages_20 : decode b_M_freePages 20 = .ok (.getfield 16, 3) := by decide +kernel
theorem d_M_freePages_23 : decode b_M_freePages 23 = .ok (.iload_n 2, 1) := by decide +kernel
theorem d_M_freePages_24 : decode b_M_freePages 24 = .ok (.iconst 4, 1) := by decide +kernel
theorem d_M_freePages_25 : decode b_M_freePages 25 = .ok (.idiv, 1) := by decide +kernel
theorem d_M_freePages_26 : decode b_M_freePages 26 = .ok (.baload, 1) := by decide +kernel
theorem d_M_freePages_27 : decode b_M_freePages 27 = .ok (.ifCond .ne (7), 3) := by decide +kernel
theorem d_M_freePages_30 : decode b_M_freePages 30 = .ok (.iconst 1, 1) := by decide +kernel
theorem d_M_freePages_31 : decode b_M_freePages 31 = .ok (.goto (4), 3) := by decide +kernel
theorem d_M_freePages_34 : decode b_M_freePages 34 = .ok (.iconst 0, 1) := by decide +kernel
theorem d_M_freePages_35 : decode b_M_freePages 35 = .ok (.iadd, 1) := by decide +kernel
theorem d_M_freePages_36 : decode b_M_freePages 36 = .ok (.istore_n 1, 1) := by decide +kernel
theorem d_M_freePages_37 : decode b_M_freePages 37 = .ok (.iinc 2 1, 3) := by decide +kernel
theorem d_M_freePages_40 : decode b_M_freePages 40 = .ok (.goto (-36), 3) := by decide +kernel
theorem d_M_freePages_43 : decode b_M_freePages 43 = .ok (.iload_n 1, 1) := by decide +kernel
theorem d_M_freePages_44 : decode b_M_freePages 44 = .ok (.ireturn, 1) := by decide +kernel
theorem d_M_latest_0 : decode b_M_latest 0 = .ok (.iconst (-1), 1) := by decide +kernel
theorem d_M_latest_1 : decode b_M_latest 1 = .ok (.istore_n 2, 1) := by decide +kernel
theorem d_M_latest_2 : decode b_M_latest 2 = .ok (.iconst 0, 1) := by decide +kernel
theorem d_M_latest_3 : decode b_M_latest 3 = .ok (.istore_n 3, 1) := by decide +kernel
theorem d_M_latest_4 : decode b_M_latest 4 = .ok (.iload_n 3, 1) := by decide +kernel
theorem d_M_latest_5 : decode b_M_latest 5 = .ok (.bipush 32, 2) := by decide +kernel
theorem d_M_latest_7 : decode b_M_latest 7 = .ok (.if_icmp .ge (67), 3) := by decide +kernel
theorem d_M_latest_10 : decode b_M_latest 10 = .ok (.aload_n 0, 1) := by decide +kernel
theorem d_M_latest_11 : decode b_M_latest 11 = .ok (.iload_n 3, 1) := by decide +kernel
theorem d_M_latest_12 : decode b_M_latest 12 = .ok (.invokevirtual 163, 3) := by decide +kernel
theorem d_M_latest_15 : decode b_M_latest 15 = .ok (.ifCond .eq (53), 3) := by decide +kernel
theorem d_M_latest_18 : decode b_M_latest 18 = .ok (.iload_n 1, 1) := by decide +kernel
theorem d_M_latest_19 : decode b_M_latest 19 = .ok (.ifCond .lt (18), 3) := by decide +kernel
theorem d_M_latest_22 : decode b_M_latest 22 = .ok (.aload_n 0, 1) := by decide +kernel
theorem d_M_latest_23 : decode b_M_latest 23 = .ok (.getfield 7, 3) := by decide +kernel
theorem d_M_latest_26 : decode b_M_latest 26 = .ok (.bipush 16, 2) := by decide +kernel
theorem d_M_latest_28 : decode b_M_latest 28 = .ok (.iload_n 3, 1) := by decide +kernel
theorem d_M_latest_29 : decode b_M_latest 29 = .ok (.imul, 1) := by decide +kernel
theorem d_M_latest_30 : decode b_M_latest 30 = .ok (.iaload, 1) := by decide +kernel
theorem d_M_latest_31 : decode b_M_latest 31 = .ok (.iconst 4, 1) := by decide +kernel
theorem d_M_latest_32 : decode b_M_latest 32 = .ok (.idiv, 1) := by decide +kernel
theorem d_M_latest_33 : decode b_M_latest 33 = .ok (.iload_n 1, 1) := by decide +kernel
theorem d_M_latest_34 : decode b_M_latest 34 = .ok (.if_icmp .ne (34), 3) := by decide +kernel
theorem d_M_latest_37 : decode b_M_latest 37 = .ok (.iload_n 2, 1) := by decide +kernel
theorem d_M_latest_38 : decode b_M_latest 38 = .ok (.ifCond .lt (28), 3) := by decide +kernel
theorem d_M_latest_41 : decode b_M_latest 41 = .ok (.aload_n 0, 1) := by decide +kernel
theorem d_M_latest_42 : decode b_M_latest 42 = .ok (.getfield 7, 3) := by decide +kernel
theorem d_M_latest_45 : decode b_M_latest 45 = .ok (.bipush 16, 2) := by decide +kernel
theorem d_M_latest_47 : decode b_M_latest 47 = .ok (.iload_n 3, 1) := by decide +kernel
theorem d_M_latest_48 : decode b_M_latest 48 = .ok (.imul, 1) := by decide +kernel
theorem d_M_latest_49 : decode b_M_latest 49 = .ok (.iconst 1, 1) := by decide +kernel
theorem d_M_latest_50 : decode b_M_latest 50 = .ok (.iadd, 1) := by decide +kernel
theorem d_M_latest_51 : decode b_M_latest 51 = .ok (.iaload, 1) := by decide +kernel
theorem d_M_latest_52 : decode b_M_latest 52 = .ok (.aload_n 0, 1) := by decide +kernel
theorem d_M_latest_53 : decode b_M_latest 53 = .ok (.getfield 7, 3) := by decide +kernel
theorem d_M_latest_56 : decode b_M_latest 56 = .ok (.bipush 16, 2) := by decide +kernel
theorem d_M_latest_58 : decode b_M_latest 58 = .ok (.iload_n 2, 1) := by decide +kernel
theorem d_M_latest_59 : decode b_M_latest 59 = .ok (.imul, 1) := by decide +kernel
theorem d_M_latest_60 : decode b_M_latest 60 = .ok (.iconst 1, 1) := by decide +kernel
theorem d_M_latest_61 : decode b_M_latest 61 = .ok (.iadd, 1) := by decide +kernel
theorem d_M_latest_62 : decode b_M_latest 62 = .ok (.iaload, 1) := by decide +kernel
theorem d_M_latest_63 : decode b_M_latest 63 = .ok (.if_icmp .le (5), 3) := by decide +kernel
theorem d_M_latest_66 : decode b_M_latest 66 = .ok (.iload_n 3, 1) := by decide +kernel
theorem d_M_latest_67 : decode b_M_latest 67 = .ok (.istore_n 2, 1) := by decide +kernel
theorem d_M_latest_68 : decode b_M_latest 68 = .ok (.iinc 3 1, 3) := by decide +kernel
theorem d_M_latest_71 : decode b_M_latest 71 = .ok (.goto (-67), 3) := by decide +kernel
theorem d_M_latest_74 : decode b_M_latest 74 = .ok (.iload_n 2, 1) := by decide +kernel
theorem d_M_latest_75 : decode b_M_latest 75 = .ok (.ireturn, 1) := by decide +kernel
theorem d_M_axle_0 : decode b_M_axle 0 = .ok (.aload_n 0, 1) := by decide +kernel
theorem d_M_axle_1 : decode b_M_axle 1 = .ok (.iconst 1, 1) := by decide +kernel
theorem d_M_axle_2 : decode b_M_axle 2 = .ok (.iload_n 1, 1) := by decide +kernel
theorem d_M_axle_3 : decode b_M_axle 3 = .ok (.iconst 1, 1) := by decide +kernel
theorem d_M_axle_4 : decode b_M_axle 4 = .ok (.sipush 1200, 3) := by decide +kernel
theorem d_M_axle_7 : decode b_M_axle 7 = .ok (.invokestatic 130, 3) := by decide +kernel
theorem d_M_axle_10 : decode b_M_axle 10 = .ok (.ifCond .ne (7), 3) := by decide +kernel
theorem d_M_axle_13 : decode b_M_axle 13 = .ok (.iconst 1, 1) := by decide +kernel
theorem d_M_axle_14 : decode b_M_axle 14 = .ok (.goto (4), 3) := by decide +kernel
theorem d_M_axle_17 : decode b_M_axle 17 = .ok (.iconst 0, 1) := by decide +kernel
theorem d_M_axle_18 : decode b_M_axle 18 = .ok (.invokevirtual 137, 3) := by decide +kernel
theorem d_M_axle_21 : decode b_M_axle 21 = .ok (.ifCond .ne (32), 3) := by decide +kernel
theorem d_M_axle_24 : decode b_M_axle 24 = .ok (.aload_n 0, 1) := by decide +kernel
theorem d_M_axle_25 : decode b_M_axle 25 = .ok (.iconst 2, 1) := by decide +kernel
theorem d_M_axle_26 : decode b_M_axle 26 = .ok (.aload_n 0, 1) := by decide +kernel
theorem d_M_axle_27 : decode b_M_axle 27 = .ok (.getfield 23, 3) := by decide +kernel
theorem d_M_axle_30 : decode b_M_axle 30 = .ok (.ifCond .eq (12), 3) := by decide +kernel
theorem d_M_axle_33 : decode b_M_axle 33 = .ok (.aload_n 0, 1) := by decide +kernel
theorem d_M_axle_34 : decode b_M_axle 34 = .ok (.getfield 58, 3) := by decide +kernel
theorem d_M_axle_37 : decode b_M_axle 37 = .ok (.bipush 9, 2) := by decide +kernel
theorem d_M_axle_39 : decode b_M_axle 39 = .ok (.if_icmp .ne (7), 3) := by decide +kernel
theorem d_M_axle_42 : decode b_M_axle 42 = .ok (.iconst 1, 1) := by decide +kernel
theorem d_M_axle_43 : decode b_M_axle 43 = .ok (.goto (4), 3) := by decide +kernel
theorem d_M_axle_46 : decode b_M_axle 46 = .ok (.iconst 0, 1) := by decide +kernel
theorem d_M_axle_47 : decode b_M_axle 47 = .ok (.invokevirtual 137, 3) := by decide +kernel
theorem d_M_axle_50 : decode b_M_axle 50 = .ok (.ifCond .eq (5), 3) := by decide +kernel
theorem d_M_axle_53 : decode b_M_axle 53 = .ok (.iconst 0, 1) := by decide +kernel
theorem d_M_axle_54 : decode b_M_axle 54 = .ok (.ireturn, 1) := by decide +kernel
theorem d_M_axle_55 : decode b_M_axle 55 = .ok (.aload_n 0, 1) := by decide +kernel
theorem d_M_axle_56 : decode b_M_axle 56 = .ok (.dup, 1) := by decide +kernel
theorem d_M_axle_57 : decode b_M_axle 57 = .ok (.getfield 58, 3) := by decide +kernel
theorem d_M_axle_60 : decode b_M_axle 60 = .ok (.iconst 1, 1) := by decide +kernel
theorem d_M_axle_61 : decode b_M_axle 61 = .ok (.iadd, 1) := by decide +kernel
theorem d_M_axle_62 : decode b_M_axle 62 = .ok (.putfield 58, 3) := by decide +kernel
theorem d_M_axle_65 : decode b_M_axle 65 = .ok (.aload_n 0, 1) := by decide +kernel
theorem d_M_axle_66 : decode b_M_axle 66 = .ok (.dup, 1) := by decide +kernel
theorem d_M_axle_67 : decode b_M_axle 67 = .ok (.getfield 61, 3) := by decide +kernel
theorem d_M_axle_70 : decode b_M_axle 70 = .ok (.iload_n 1, 1) := by decide +kernel
theorem d_M_axle_71 : decode b_M_axle 71 = .ok (.iadd, 1) := by decide +kernel
theorem d_M_axle_72 : decode b_M_axle 72 = .ok (.putfield 61, 3) := by decide +kernel
theorem d_M_axle_75 : decode b_M_axle 75 = .ok (.aload_n 0, 1) := by decide +kernel
theorem d_M_axle_76 : decode b_M_axle 76 = .ok (.getfield 58, 3) := by decide +kernel
theorem d_M_axle_79 : decode b_M_axle 79 = .ok (.ireturn, 1) := by decide +kernel
theorem d_M_close_0 : decode b_M_close 0 = .ok (.iload_n 2, 1) := by decide +kernel
theorem d_M_close_1 : decode b_M_close 1 = .ok (.iconst 0, 1) := by decide +kernel
theorem d_M_close_2 : decode b_M_close 2 = .ok (.ldc 141, 2) := by decide +kernel
theorem d_M_close_4 : decode b_M_close 4 = .ok (.invokestatic 130, 3) := by decide +kernel
theorem d_M_close_7 : decode b_M_close 7 = .ok (.ifCond .eq (28), 3) := by decide +kernel
theorem d_M_close_10 : decode b_M_close 10 = .ok (.iload_n 3, 1) := by decide +kernel
theorem d_M_close_11 : decode b_M_close 11 = .ok (.iconst 0, 1) := by decide +kernel
theorem d_M_close_12 : decode b_M_close 12 = .ok (.bipush 39, 2) := by decide +kernel
theorem d_M_close_14 : decode b_M_close 14 = .ok (.invokestatic 130, 3) := by decide +kernel
theorem d_M_close_17 : decode b_M_close 17 = .ok (.ifCond .eq (18), 3) := by decide +kernel
theorem d_M_close_20 : decode b_M_close 20 = .ok (.iload 4, 2) := by decide +kernel
theorem d_M_close_22 : decode b_M_close 22 = .ok (.iconst 0, 1) := by decide +kernel
theorem d_M_close_23 : decode b_M_close 23 = .ok (.ldc 142, 2) := by decide +kernel
theorem d_M_close_25 : decode b_M_close 25 = .ok (.invokestatic 130, 3) := by decide +kernel
theorem d_M_close_28 : decode b_M_close 28 = .ok (.ifCond .eq (7), 3) := by decide +kernel
theorem d_M_close_31 : decode b_M_close 31 = .ok (.iconst 1, 1) := by decide +kernel
theorem d_M_close_32 : decode b_M_close 32 = .ok (.goto (4), 3) := by decide +kernel
theorem d_M_close_35 : decode b_M_close 35 = .ok (.iconst 0, 1) := by decide +kernel
theorem d_M_close_36 : decode b_M_close 36 = .ok (.istore 5, 2) := by decide +kernel
theorem d_M_close_38 : decode b_M_close 38 = .ok (.aload_n 0, 1) := by decide +kernel
theorem d_M_close_39 : decode b_M_close 39 = .ok (.iconst 1, 1) := by decide +kernel
theorem d_M_close_40 : decode b_M_close 40 = .ok (.iload 5, 2) := by decide +kernel
theorem d_M_close_42 : decode b_M_close 42 = .ok (.ifCond .ne (7), 3) := by decide +kernel
theorem d_M_close_45 : decode b_M_close 45 = .ok (.iconst 1, 1) := by decide +kernel
theorem d_M_close_46 : decode b_M_close 46 = .ok (.goto (4), 3) := by decide +kernel
theorem d_M_close_49 : decode b_M_close 49 = .ok (.iconst 0, 1) := by decide +kernel
theorem d_M_close_50 : decode b_M_close 50 = .ok (.invokevirtual 137, 3) := by decide +kernel
theorem d_M_close_53 : decode b_M_close 53 = .ok (.ifCond .ne (23), 3) := by decide +kernel
theorem d_M_close_56 : decode b_M_close 56 = .ok (.aload_n 0, 1) := by decide +kernel
theorem d_M_close_57 : decode b_M_close 57 = .ok (.iconst 2, 1) := by decide +kernel
theorem d_M_close_58 : decode b_M_close 58 = .ok (.aload_n 0, 1) := by decide +kernel
theorem d_M_close_59 : decode b_M_close 59 = .ok (.getfield 23, 3) := by decide +kernel
theorem d_M_close_62 : decode b_M_close 62 = .ok (.ifCond .ne (7), 3) := by decide +kernel
theorem d_M_close_65 : decode b_M_close 65 = .ok (.iconst 1, 1) := by decide +kernel
theorem d_M_close_66 : decode b_M_close 66 = .ok (.goto (4), 3) := by decide +kernel
theorem d_M_close_69 : decode b_M_close 69 = .ok (.iconst 0, 1) := by decide +kernel
theorem d_M_close_70 : decode b_M_close 70 = .ok (.invokevirtual 137, 3) := by decide +kernel
theorem d_M_close_73 : decode b_M_close 73 = .ok (.ifCond .eq (5), 3) := by decide +kernel
theorem d_M_close_76 : decode b_M_close 76 = .ok (.iconst 0, 1) := by decide +kernel
theorem d_M_close_77 : decode b_M_close 77 = .ok (.ireturn, 1) := by decide +kernel
theorem d_M_close_78 : decode b_M_close 78 = .ok (.aload_n 0, 1) := by decide +kernel
theorem d_M_close_79 : decode b_M_close 79 = .ok (.getfield 58, 3) := by decide +kernel
theorem d_M_close_82 : decode b_M_close 82 = .ok (.ifCond .eq (32), 3) := by decide +kernel
theorem d_M_close_85 : decode b_M_close 85 = .ok (.aload_n 0, 1) := by decide +kernel
theorem d_M_close_86 : decode b_M_close 86 = .ok (.getfield 20, 3) := by decide +kernel
theorem d_M_close_89 : decode b_M_close 89 = .ok (.iload_n 3, 1) := by decide +kernel
theorem d_M_close_90 : decode b_M_close 90 = .ok (.baload, 1) := by decide +kernel
theorem d_M_close_91 : decode b_M_close 91 = .ok (.ifCond .eq (23), 3) := by decide +kernel
theorem d_M_close_94 : decode b_M_close 94 = .ok (.iload_n 2, 1) := by decide +kernel
theorem d_M_close_95 : decode b_M_close 95 = .ok (.bipush 20, 2) := by decide +kernel
theorem d_M_close_97 : decode b_M_close 97 = .ok (.aload_n 0, 1) := by decide +kernel
theorem d_M_close_98 : decode b_M_close 98 = .ok (.getfield 61, 3) := by decide +kernel
theorem d_M_close_101 : decode b_M_close 101 = .ok (.imul, 1) := by decide +kernel
theorem d_M_close_102 : decode b_M_close 102 = .ok (.if_icmp .gt (12), 3) := by decide +kernel
theorem d_M_close_105 : decode b_M_close 105 = .ok (.aload_n 0, 1) := by decide +kernel
theorem d_M_close_106 : decode b_M_close 106 = .ok (.getfield 52, 3) := by decide +kernel
theorem d_M_close_109 : decode b_M_close 109 = .ok (.bipush 48, 2) := by decide +kernel
theorem d_M_close_111 : decode b_M_close 111 = .ok (.if_icmp .ne (5), 3) := by decide +kernel
theorem d_M_close_114 : decode b_M_close 114 = .ok (.iconst 0, 1) := by decide +kernel
theorem d_M_close_115 : decode b_M_close 115 = .ok (.ireturn, 1) := by decide +kernel
theorem d_M_close_116 : decode b_M_close 116 = .ok (.aload_n 0, 1) := by decide +kernel
theorem d_M_close_117 : decode b_M_close 117 = .ok (.iload_n 1, 1) := by decide +kernel
theorem d_M_close_118 : decode b_M_close 118 = .ok (.ldc 143, 2) := by decide +kernel
theorem d_M_close_120 : decode b_M_close 120 = .ok (.aload_n 0, 1) := by decide +kernel
theorem d_M_close_121 : decode b_M_close 121 = .ok (.getfield 61, 3) := by decide +kernel
theorem d_M_close_124 : decode b_M_close 124 = .ok (.imul, 1) := by decide +kernel
theorem d_M_close_125 : decode b_M_close 125 = .ok (.iload_n 2, 1) := by decide +kernel
theorem d_M_close_126 : decode b_M_close 126 = .ok (.iadd, 1) := by decide +kernel
theorem d_M_close_127 : decode b_M_close 127 = .ok (.ldc 144, 2) := by decide +kernel
theorem d_M_close_129 : decode b_M_close 129 = .ok (.iload_n 3, 1) := by decide +kernel
theorem d_M_close_130 : decode b_M_close 130 = .ok (.imul, 1) := by decide +kernel
theorem d_M_close_131 : decode b_M_close 131 = .ok (.iload 4, 2) := by decide +kernel
theorem d_M_close_133 : decode b_M_close 133 = .ok (.iadd, 1) := by decide +kernel
theorem d_M_close_134 : decode b_M_close 134 = .ok (.invokevirtual 145, 3) := by decide +kernel
theorem d_M_close_137 : decode b_M_close 137 = .ok (.istore 6, 2) := by decide +kernel
theorem d_M_close_139 : decode b_M_close 139 = .ok (.iload 6, 2) := by decide +kernel
theorem d_M_close_141 : decode b_M_close 141 = .ok (.ifCond .eq (6), 3) := by decide +kernel
theorem d_M_close_144 : decode b_M_close 144 = .ok (.iload 6, 2) := by decide +kernel
theorem d_M_close_146 : decode b_M_close 146 = .ok (.ireturn, 1) := by decide +kernel
theorem d_M_close_147 : decode b_M_close 147 = .ok (.aload_n 0, 1) := by decide +kernel
theorem d_M_close_148 : decode b_M_close 148 = .ok (.iconst 0, 1) := by decide +kernel
theorem d_M_close_149 : decode b_M_close 149 = .ok (.putfield 58, 3) := by decide +kernel
theorem d_M_close_152 : decode b_M_close 152 = .ok (.aload_n 0, 1) := by decide +kernel
theorem d_M_close_153 : decode b_M_close 153 = .ok (.iconst 0, 1) := by decide +kernel
theorem d_M_close_154 : decode b_M_close 154 = .ok (.putfield 61, 3) := by decide +kernel
theorem d_M_close_157 : decode b_M_close 157 = .ok (.aload_n 0, 1) := by decide +kernel
theorem d_M_close_158 : decode b_M_close 158 = .ok (.invokevirtual 149, 3) := by decide +kernel
theorem d_M_close_161 : decode b_M_close 161 = .ok (.ireturn, 1) := by decide +kernel
theorem d_M_annul_0 : decode b_M_annul 0 = .ok (.aload_n 0, 1) := by decide +kernel
theorem d_M_annul_1 : decode b_M_annul 1 = .ok (.iconst 1, 1) := by decide +kernel
theorem d_M_annul_2 : decode b_M_annul 2 = .ok (.iload_n 2, 1) := by decide +kernel
theorem d_M_annul_3 : decode b_M_annul 3 = .ok (.iconst 0, 1) := by decide +kernel
theorem d_M_annul_4 : decode b_M_annul 4 = .ok (.iconst 3, 1) := by decide +kernel
theorem d_M_annul_5 : decode b_M_annul 5 = .ok (.invokestatic 130, 3) := by decide +kernel
theorem d_M_annul_8 : decode b_M_annul 8 = .ok (.ifCond .ne (7), 3) := by decide +kernel
theorem d_M_annul_11 : decode b_M_annul 11 = .ok (.iconst 1, 1) := by decide +kernel
theorem d_M_annul_12 : decode b_M_annul 12 = .ok (.goto (4), 3) := by decide +kernel
theorem d_M_annul_15 : decode b_M_annul 15 = .ok (.iconst 0, 1) := by decide +kernel
theorem d_M_annul_16 : decode b_M_annul 16 = .ok (.invokevirtual 137, 3) := by decide +kernel
theorem d_M_annul_19 : decode b_M_annul 19 = .ok (.ifCond .ne (23), 3) := by decide +kernel
theorem d_M_annul_22 : decode b_M_annul 22 = .ok (.aload_n 0, 1) := by decide +kernel
theorem d_M_annul_23 : decode b_M_annul 23 = .ok (.iconst 2, 1) := by decide +kernel
theorem d_M_annul_24 : decode b_M_annul 24 = .ok (.aload_n 0, 1) := by decide +kernel
theorem d_M_annul_25 : decode b_M_annul 25 = .ok (.getfield 23, 3) := by decide +kernel
theorem d_M_annul_28 : decode b_M_annul 28 = .ok (.ifCond .ne (7), 3) := by decide +kernel
theorem d_M_annul_31 : decode b_M_annul 31 = .ok (.iconst 1, 1) := by decide +kernel
theorem d_M_annul_32 : decode b_M_annul 32 = .ok (.goto (4), 3) := by decide +kernel
theorem d_M_annul_35 : decode b_M_annul 35 = .ok (.iconst 0, 1) := by decide +kernel
theorem d_M_annul_36 : decode b_M_annul 36 = .ok (.invokevirtual 137, 3) := by decide +kernel
theorem d_M_annul_39 : decode b_M_annul 39 = .ok (.ifCond .eq (5), 3) := by decide +kernel
theorem d_M_annul_42 : decode b_M_annul 42 = .ok (.iconst 0, 1) := by decide +kernel
theorem d_M_annul_43 : decode b_M_annul 43 = .ok (.ireturn, 1) := by decide +kernel
theorem d_M_annul_44 : decode b_M_annul 44 = .ok (.iload_n 1, 1) := by decide +kernel
theorem d_M_annul_45 : decode b_M_annul 45 = .ok (.iconst 1, 1) := by decide +kernel
theorem d_M_annul_46 : decode b_M_annul 46 = .ok (.if_icmp .lt (28), 3) := by decide +kernel
theorem d_M_annul_49 : decode b_M_annul 49 = .ok (.aload_n 0, 1) := by decide +kernel
theorem d_M_annul_50 : decode b_M_annul 50 = .ok (.iload_n 1, 1) := by decide +kernel
theorem d_M_annul_51 : decode b_M_annul 51 = .ok (.invokevirtual 127, 3) := by decide +kernel
theorem d_M_annul_54 : decode b_M_annul 54 = .ok (.ifCond .lt (20), 3) := by decide +kernel
theorem d_M_annul_57 : decode b_M_annul 57 = .ok (.aload_n 0, 1) := by decide +kernel
theorem d_M_annul_58 : decode b_M_annul 58 = .ok (.iload_n 1, 1) := by decide +kernel
theorem d_M_annul_59 : decode b_M_annul 59 = .ok (.invokevirtual 152, 3) := by decide +kernel
theorem d_M_annul_62 : decode b_M_annul 62 = .ok (.ifCond .gt (12), 3) := by decide +kernel
theorem d_M_annul_65 : decode b_M_annul 65 = .ok (.aload_n 0, 1) := by decide +kernel
theorem d_M_annul_66 : decode b_M_annul 66 = .ok (.getfield 52, 3) := by decide +kernel
theorem d_M_annul_69 : decode b_M_annul 69 = .ok (.bipush 48, 2) := by decide +kernel
theorem d_M_annul_71 : decode b_M_annul 71 = .ok (.if_icmp .ne (5), 3) := by decide +kernel
theorem d_M_annul_74 : decode b_M_annul 74 = .ok (.iconst 0, 1) := by decide +kernel
theorem d_M_annul_75 : decode b_M_annul 75 = .ok (.ireturn, 1) := by decide +kernel
theorem d_M_annul_76 : decode b_M_annul 76 = .ok (.aload_n 0, 1) := by decide +kernel
theorem d_M_annul_77 : decode b_M_annul 77 = .ok (.iload_n 1, 1) := by decide +kernel
theorem d_M_annul_78 : decode b_M_annul 78 = .ok (.iload_n 2, 1) := by decide +kernel
theorem d_M_annul_79 : decode b_M_annul 79 = .ok (.ldc 155, 2) := by decide +kernel
theorem d_M_annul_81 : decode b_M_annul 81 = .ok (.invokevirtual 145, 3) := by decide +kernel
theorem d_M_annul_84 : decode b_M_annul 84 = .ok (.istore_n 3, 1) := by decide +kernel
theorem d_M_annul_85 : decode b_M_annul 85 = .ok (.iload_n 3, 1) := by decide +kernel
theorem d_M_annul_86 : decode b_M_annul 86 = .ok (.ifCond .ne (7), 3) := by decide +kernel
theorem d_M_annul_89 : decode b_M_annul 89 = .ok (.iconst 1, 1) := by decide +kernel
theorem d_M_annul_90 : decode b_M_annul 90 = .ok (.goto (4), 3) := by decide +kernel
theorem d_M_annul_93 : decode b_M_annul 93 = .ok (.iload_n 3, 1) := by decide +kernel
theorem d_M_annul_94 : decode b_M_annul 94 = .ok (.ireturn, 1) := by decide +kernel
theorem d_M_sync_0 : decode b_M_sync 0 = .ok (.aload_n 0, 1) := by decide +kernel
theorem d_M_sync_1 : decode b_M_sync 1 = .ok (.iconst 1, 1) := by decide +kernel
theorem d_M_sync_2 : decode b_M_sync 2 = .ok (.aload_n 0, 1) := by decide +kernel
theorem d_M_sync_3 : decode b_M_sync 3 = .ok (.getfield 23, 3) := by decide +kernel
theorem d_M_sync_6 : decode b_M_sync 6 = .ok (.ifCond .ne (7), 3) := by decide +kernel
theorem d_M_sync_9 : decode b_M_sync 9 = .ok (.iconst 1, 1) := by decide +kernel
theorem d_M_sync_10 : decode b_M_sync 10 = .ok (.goto (4), 3) := by decide +kernel
theorem d_M_sync_13 : decode b_M_sync 13 = .ok (.iconst 0, 1) := by decide +kernel
theorem d_M_sync_14 : decode b_M_sync 14 = .ok (.invokevirtual 137, 3) := by decide +kernel
theorem d_M_sync_17 : decode b_M_sync 17 = .ok (.ifCond .eq (5), 3) := by decide +kernel
theorem d_M_sync_20 : decode b_M_sync 20 = .ok (.iconst 0, 1) := by decide +kernel
theorem d_M_sync_21 : decode b_M_sync 21 = .ok (.ireturn, 1) := by decide +kernel
theorem d_M_sync_22 : decode b_M_sync 22 = .ok (.aload_n 0, 1) := by decide +kernel
theorem d_M_sync_23 : decode b_M_sync 23 = .ok (.invokevirtual 156, 3) := by decide +kernel
theorem d_M_sync_26 : decode b_M_sync 26 = .ok (.aload_n 0, 1) := by decide +kernel
theorem d_M_sync_27 : decode b_M_sync 27 = .ok (.getfield 52, 3) := by decide +kernel
theorem d_M_sync_30 : decode b_M_sync 30 = .ok (.if_icmp .ne (5), 3) := by decide +kernel
theorem d_M_sync_33 : decode b_M_sync 33 = .ok (.iconst 1, 1) := by decide +kernel
theorem d_M_sync_34 : decode b_M_sync 34 = .ok (.ireturn, 1) := by decide +kernel
theorem d_M_sync_35 : decode b_M_sync 35 = .ok (.aload_n 0, 1) := by decide +kernel
theorem d_M_sync_36 : decode b_M_sync 36 = .ok (.getfield 52, 3) := by decide +kernel
theorem d_M_sync_39 : decode b_M_sync 39 = .ok (.iconst 1, 1) := by decide +kernel
theorem d_M_sync_40 : decode b_M_sync 40 = .ok (.isub, 1) := by decide +kernel
theorem d_M_sync_41 : decode b_M_sync 41 = .ok (.iconst 3, 1) := by decide +kernel
theorem d_M_sync_42 : decode b_M_sync 42 = .ok (.idiv, 1) := by decide +kernel
theorem d_M_sync_43 : decode b_M_sync 43 = .ok (.istore_n 1, 1) := by decide +kernel
theorem d_M_sync_44 : decode b_M_sync 44 = .ok (.aload_n 0, 1) := by decide +kernel
theorem d_M_sync_45 : decode b_M_sync 45 = .ok (.iload_n 1, 1) := by decide +kernel
theorem d_M_sync_46 : decode b_M_sync 46 = .ok (.aload_n 0, 1) := by decide +kernel
theorem d_M_sync_47 : decode b_M_sync 47 = .ok (.getfield 52, 3) := by decide +kernel
theorem d_M_sync_50 : decode b_M_sync 50 = .ok (.invokevirtual 134, 3) := by decide +kernel
theorem d_M_sync_53 : decode b_M_sync 53 = .ok (.istore_n 2, 1) := by decide +kernel
theorem d_M_sync_54 : decode b_M_sync 54 = .ok (.iload_n 2, 1) := by decide +kernel
theorem d_M_sync_55 : decode b_M_sync 55 = .ok (.ifCond .eq (5), 3) := by decide +kernel
theorem d_M_sync_58 : decode b_M_sync 58 = .ok (.iload_n 2, 1) := by decide +kernel
theorem d_M_sync_59 : decode b_M_sync 59 = .ok (.ireturn, 1) := by decide +kernel
theorem d_M_sync_60 : decode b_M_sync 60 = .ok (.aload_n 0, 1) := by decide +kernel
theorem d_M_sync_61 : decode b_M_sync 61 = .ok (.getfield 37, 3) := by decide +kernel
theorem d_M_sync_64 : decode b_M_sync 64 = .ok (.iload_n 1, 1) := by decide +kernel
theorem d_M_sync_65 : decode b_M_sync 65 = .ok (.aload_n 0, 1) := by decide +kernel
theorem d_M_sync_66 : decode b_M_sync 66 = .ok (.getfield 52, 3) := by decide +kernel
theorem d_M_sync_69 : decode b_M_sync 69 = .ok (.iconst 3, 1) := by decide +kernel
theorem d_M_sync_70 : decode b_M_sync 70 = .ok (.iload_n 1, 1) := by decide +kernel
theorem d_M_sync_71 : decode b_M_sync 71 = .ok (.imul, 1) := by decide +kernel
theorem d_M_sync_72 : decode b_M_sync 72 = .ok (.isub, 1) := by decide +kernel
theorem d_M_sync_73 : decode b_M_sync 73 = .ok (.iastore, 1) := by decide +kernel
theorem d_M_sync_74 : decode b_M_sync 74 = .ok (.iconst 1, 1) := by decide +kernel
theorem d_M_sync_75 : decode b_M_sync 75 = .ok (.ireturn, 1) := by decide +kernel
theorem d_M_ticket_0 : decode b_M_ticket 0 = .ok (.aload_n 0, 1) := by decide +kernel
theorem d_M_ticket_1 : decode b_M_ticket 1 = .ok (.iconst 1, 1) := by decide +kernel
theorem d_M_ticket_2 : decode b_M_ticket 2 = .ok (.aload_n 0, 1) := by decide +kernel
theorem d_M_ticket_3 : decode b_M_ticket 3 = .ok (.getfield 23, 3) := by decide +kernel
theorem d_M_ticket_6 : decode b_M_ticket 6 = .ok (.ifCond .ne (7), 3) := by decide +kernel
theorem d_M_ticket_9 : decode b_M_ticket 9 = .ok (.iconst 1, 1) := by decide +kernel
theorem d_M_ticket_10 : decode b_M_ticket 10 = .ok (.goto (4), 3) := by decide +kernel
theorem d_M_ticket_13 : decode b_M_ticket 13 = .ok (.iconst 0, 1) := by decide +kernel
theorem d_M_ticket_14 : decode b_M_ticket 14 = .ok (.invokevirtual 137, 3) := by decide +kernel
theorem d_M_ticket_17 : decode b_M_ticket 17 = .ok (.ifCond .eq (5), 3) := by decide +kernel
theorem d_M_ticket_20 : decode b_M_ticket 20 = .ok (.iconst 0, 1) := by decide +kernel
theorem d_M_ticket_21 : decode b_M_ticket 21 = .ok (.ireturn, 1) := by decide +kernel
theorem d_M_ticket_22 : decode b_M_ticket 22 = .ok (.iload_n 1, 1) := by decide +kernel
theorem d_M_ticket_23 : decode b_M_ticket 23 = .ok (.iconst 1, 1) := by decide +kernel
theorem d_M_ticket_24 : decode b_M_ticket 24 = .ok (.if_icmp .ge (7), 3) := by decide +kernel
theorem d_M_ticket_27 : decode b_M_ticket 27 = .ok (.iconst (-1), 1) := by decide +kernel
theorem d_M_ticket_28 : decode b_M_ticket 28 = .ok (.goto (8), 3) := by decide +kernel
theorem d_M_ticket_31 : decode b_M_ticket 31 = .ok (.aload_n 0, 1) := by decide +kernel
theorem d_M_ticket_32 : decode b_M_ticket 32 = .ok (.iload_n 1, 1) := by decide +kernel
theorem d_M_ticket_33 : decode b_M_ticket 33 = .ok (.invokevirtual 127, 3) := by decide +kernel
theorem d_M_ticket_36 : decode b_M_ticket 36 = .ok (.istore_n 3, 1) := by decide +kernel
theorem d_M_ticket_37 : decode b_M_ticket 37 = .ok (.aload_n 0, 1) := by decide +kernel
theorem d_M_ticket_38 : decode b_M_ticket 38 = .ok (.iconst 2, 1) := by decide +kernel
theorem d_M_ticket_39 : decode b_M_ticket 39 = .ok (.iload_n 3, 1) := by decide +kernel
theorem d_M_ticket_40 : decode b_M_ticket 40 = .ok (.ifCond .lt (13), 3) := by decide +kernel
theorem d_M_ticket_43 : decode b_M_ticket 43 = .ok (.iload_n 2, 1) := by decide +kernel
theorem d_M_ticket_44 : decode b_M_ticket 44 = .ok (.iconst 0, 1) := by decide +kernel
theorem d_M_ticket_45 : decode b_M_ticket 45 = .ok (.bipush 6, 2) := by decide +kernel
theorem d_M_ticket_47 : decode b_M_ticket 47 = .ok (.invokestatic 130, 3) := by decide +kernel
theorem d_M_ticket_50 : decode b_M_ticket 50 = .ok (.ifCond .ne (7), 3) := by decide +kernel
theorem d_M_ticket_53 : decode b_M_ticket 53 = .ok (.iconst 1, 1) := by decide +kernel
theorem d_M_ticket_54 : decode b_M_ticket 54 = .ok (.goto (4), 3) := by decide +kernel
theorem d_M_ticket_57 : decode b_M_ticket 57 = .ok (.iconst 0, 1) := by decide +kernel
theorem d_M_ticket_58 : decode b_M_ticket 58 = .ok (.invokevirtual 137, 3) := by decide +kernel
theorem d_M_ticket_61 : decode b_M_ticket 61 = .ok (.ifCond .eq (5), 3) := by decide +kernel
theorem d_M_ticket_64 : decode b_M_ticket 64 = .ok (.iconst 0, 1) := by decide +kernel
theorem d_M_ticket_65 : decode b_M_ticket 65 = .ok (.ireturn, 1) := by decide +kernel
theorem d_M_ticket_66 : decode b_M_ticket 66 = .ok (.iload_n 2, 1) := by decide +kernel
theorem d_M_ticket_67 : decode b_M_ticket 67 = .ok (.tableswitch 93 0 5 #[37, 44, 57, 67, 77, 87], 37) := by decide +kernel
theorem d_M_ticket_104 : decode b_M_ticket 104 = .ok (.aload_n 0, 1) := by decide +kernel
theorem d_M_ticket_105 : decode b_M_ticket 105 = .ok (.iload_n 3, 1) := by decide +kernel
theorem d_M_ticket_106 : decode b_M_ticket 106 = .ok (.iconst 0, 1) := by decide +kernel
theorem d_M_ticket_107 : decode b_M_ticket 107 = .ok (.invokevirtual 121, 3) := by decide +kernel
theorem d_M_ticket_110 : decode b_M_ticket 110 = .ok (.ireturn, 1) := by decide +kernel
theorem d_M_ticket_111 : decode b_M_ticket 111 = .ok (.bipush 20, 2) := by decide +kernel
theorem d_M_ticket_113 : decode b_M_ticket 113 = .ok (.aload_n 0, 1) := by decide +kernel
theorem d_M_ticket_114 : decode b_M_ticket 114 = .ok (.iload_n 3, 1) := by decide +kernel
theorem d_M_ticket_115 : decode b_M_ticket 115 = .ok (.iconst 1, 1) := by decide +kernel
theorem d_M_ticket_116 : decode b_M_ticket 116 = .ok (.invokevirtual 121, 3) := by decide +kernel
theorem d_M_ticket_119 : decode b_M_ticket 119 = .ok (.bipush 18, 2) := by decide +kernel
theorem d_M_ticket_121 : decode b_M_ticket 121 = .ok (.iushr, 1) := by decide +kernel
theorem d_M_ticket_122 : decode b_M_ticket 122 = .ok (.imul, 1) := by decide +kernel
theorem d_M_ticket_123 : decode b_M_ticket 123 = .ok (.ireturn, 1) := by decide +kernel
theorem d_M_ticket_124 : decode b_M_ticket 124 = .ok (.aload_n 0, 1) := by decide +kernel
theorem d_M_ticket_125 : decode b_M_ticket 125 = .ok (.iload_n 3, 1) := by decide +kernel
theorem d_M_ticket_126 : decode b_M_ticket 126 = .ok (.iconst 1, 1) := by decide +kernel
theorem d_M_ticket_127 : decode b_M_ticket 127 = .ok (.invokevirtual 121, 3) := by decide +kernel
theorem d_M_ticket_130 : decode b_M_ticket 130 = .ok (.ldc 159, 2) := by decide +kernel
theorem d_M_ticket_132 : decode b_M_ticket 132 = .ok (.iand, 1) := by decide +kernel
theorem d_M_ticket_133 : decode b_M_ticket 133 = .ok (.ireturn, 1) := by decide +kernel
theorem d_M_ticket_134 : decode b_M_ticket 134 = .ok (.aload_n 0, 1) := by decide +kernel
theorem d_M_ticket_135 : decode b_M_ticket 135 = .ok (.iload_n 3, 1) := by decide +kernel
theorem d_M_ticket_136 : decode b_M_ticket 136 = .ok (.iconst 2, 1) := by decide +kernel
theorem d_M_ticket_137 : decode b_M_ticket 137 = .ok (.invokevirtual 121, 3) := by decide +kernel
theorem d_M_ticket_140 : decode b_M_ticket 140 = .ok (.bipush 26, 2) := by decide +kernel
theorem d_M_ticket_142 : decode b_M_ticket 142 = .ok (.iushr, 1) := by decide +kernel
theorem d_M_ticket_143 : decode b_M_ticket 143 = .ok (.ireturn, 1) := by decide +kernel
theorem d_M_ticket_144 : decode b_M_ticket 144 = .ok (.aload_n 0, 1) := by decide +kernel
theorem d_M_ticket_145 : decode b_M_ticket 145 = .ok (.iload_n 3, 1) := by decide +kernel
theorem d_M_ticket_146 : decode b_M_ticket 146 = .ok (.iconst 2, 1) := by decide +kernel
theorem d_M_ticket_147 : decode b_M_ticket 147 = .ok (.invokevirtual 121, 3) := by decide +kernel
theorem d_M_ticket_150 : decode b_M_ticket 150 = .ok (.ldc 142, 2) := by decide +kernel
theorem d_M_ticket_152 : decode b_M_ticket 152 = .ok (.iand, 1) := by decide +kernel
theorem d_M_ticket_153 : decode b_M_ticket 153 = .ok (.ireturn, 1) := by decide +kernel
theorem d_M_ticket_154 : decode b_M_ticket 154 = .ok (.aload_n 0, 1) := by decide +kernel
theorem d_M_ticket_155 : decode b_M_ticket 155 = .ok (.iload_n 1, 1) := by decide +kernel
theorem d_M_ticket_156 : decode b_M_ticket 156 = .ok (.invokevirtual 152, 3) := by decide +kernel
theorem d_M_ticket_159 : decode b_M_ticket 159 = .ok (.ireturn, 1) := by decide +kernel
theorem d_M_ticket_160 : decode b_M_ticket 160 = .ok (.aload_n 0, 1) := by decide +kernel
theorem d_M_ticket_161 : decode b_M_ticket 161 = .ok (.iload_n 3, 1) := by decide +kernel
theorem d_M_ticket_162 : decode b_M_ticket 162 = .ok (.iconst 3, 1) := by decide +kernel
theorem d_M_ticket_163 : decode b_M_ticket 163 = .ok (.invokevirtual 121, 3) := by decide +kernel
theorem d_M_ticket_166 : decode b_M_ticket 166 = .ok (.ireturn, 1) := by decide +kernel
theorem d_M_dayTotal_0 : decode b_M_dayTotal 0 = .ok (.aload_n 0, 1) := by decide +kernel
theorem d_M_dayTotal_1 : decode b_M_dayTotal 1 = .ok (.iconst 1, 1) := by decide +kernel
theorem d_M_dayTotal_2 : decode b_M_dayTotal 2 = .ok (.aload_n 0, 1) := by decide +kernel
theorem d_M_dayTotal_3 : decode b_M_dayTotal 3 = .ok (.getfield 23, 3) := by decide +kernel
theorem d_M_dayTotal_6 : decode b_M_dayTotal 6 = .ok (.ifCond .ne (7), 3) := by decide +kernel
theorem d_M_dayTotal_9 : decode b_M_dayTotal 9 = .ok (.iconst 1, 1) := by decide +kernel
theorem d_M_dayTotal_10 : decode b_M_dayTotal 10 = .ok (.goto (4), 3) := by decide +kernel
theorem d_M_dayTotal_13 : decode b_M_dayTotal 13 = .ok (.iconst 0, 1) := by decide +kernel
theorem d_M_dayTotal_14 : decode b_M_dayTotal 14 = .ok (.invokevirtual 137, 3) := by decide +kernel
theorem d_M_dayTotal_17 : decode b_M_dayTotal 17 = .ok (.ifCond .eq (5), 3) := by decide +kernel
theorem d_M_dayTotal_20 : decode b_M_dayTotal 20 = .ok (.lconst 0, 1) := by decide +kernel
theorem d_M_dayTotal_21 : decode b_M_dayTotal 21 = .ok (.lreturn, 1) := by decide +kernel
theorem d_M_dayTotal_22 : decode b_M_dayTotal 22 = .ok (.lconst 0, 1) := by decide +kernel
theorem d_M_dayTotal_23 : decode b_M_dayTotal 23 = .ok (.lstore_n 3, 1) := by decide +kernel
theorem d_M_dayTotal_24 : decode b_M_dayTotal 24 = .ok (.iconst 1, 1) := by decide +kernel
theorem d_M_dayTotal_25 : decode b_M_dayTotal 25 = .ok (.istore 5, 2) := by decide +kernel
theorem d_M_dayTotal_27 : decode b_M_dayTotal 27 = .ok (.iload 5, 2) := by decide +kernel
theorem d_M_dayTotal_29 : decode b_M_dayTotal 29 = .ok (.aload_n 0, 1) := by decide +kernel
theorem d_M_dayTotal_30 : decode b_M_dayTotal 30 = .ok (.invokevirtual 149, 3) := by decide +kernel
theorem d_M_dayTotal_33 : decode b_M_dayTotal 33 = .ok (.if_icmp .gt (68), 3) := by decide +kernel
theorem d_M_dayTotal_36 : decode b_M_dayTotal 36 = .ok (.aload_n 0, 1) := by decide +kernel
theorem d_M_dayTotal_37 : decode b_M_dayTotal 37 = .ok (.iload 5, 2) := by decide +kernel
theorem d_M_dayTotal_39 : decode b_M_dayTotal 39 = .ok (.invokevirtual 127, 3) := by decide +kernel
theorem d_M_dayTotal_42 : decode b_M_dayTotal 42 = .ok (.istore 6, 2) := by decide +kernel
theorem d_M_dayTotal_44 : decode b_M_dayTotal 44 = .ok (.aload_n 0, 1) := by decide +kernel
theorem d_M_dayTotal_45 : decode b_M_dayTotal 45 = .ok (.iload 6, 2) := by decide +kernel
theorem d_M_dayTotal_47 : decode b_M_dayTotal 47 = .ok (.iconst 2, 1) := by decide +kernel
theorem d_M_dayTotal_48 : decode b_M_dayTotal 48 = .ok (.invokevirtual 121, 3) := by decide +kernel
theorem d_M_dayTotal_51 : decode b_M_dayTotal 51 = .ok (.bipush 26, 2) := by decide +kernel
theorem d_M_dayTotal_53 : decode b_M_dayTotal 53 = .ok (.iushr, 1) := by decide +kernel
theorem d_M_dayTotal_54 : decode b_M_dayTotal 54 = .ok (.iload_n 2, 1) := by decide +kernel
theorem d_M_dayTotal_55 : decode b_M_dayTotal 55 = .ok (.if_icmp .ne (40), 3) := by decide +kernel
theorem d_M_dayTotal_58 : decode b_M_dayTotal 58 = .ok (.aload_n 0, 1) := by decide +kernel
theorem d_M_dayTotal_59 : decode b_M_dayTotal 59 = .ok (.iload 6, 2) := by decide +kernel
theorem d_M_dayTotal_61 : decode b_M_dayTotal 61 = .ok (.iconst 2, 1) := by decide +kernel
theorem d_M_dayTotal_62 : decode b_M_dayTotal 62 = .ok (.invokevirtual 121, 3) := by decide +kernel
theorem d_M_dayTotal_65 : decode b_M_dayTotal 65 = .ok (.ldc 142, 2) := by decide +kernel
theorem d_M_dayTotal_67 : decode b_M_dayTotal 67 = .ok (.iand, 1) := by decide +kernel
theorem d_M_dayTotal_68 : decode b_M_dayTotal 68 = .ok (.sipush 1440, 3) := by decide +kernel
theorem d_M_dayTotal_71 : decode b_M_dayTotal 71 = .ok (.idiv, 1) := by decide +kernel
theorem d_M_dayTotal_72 : decode b_M_dayTotal 72 = .ok (.iload_n 1, 1) := by decide +kernel
theorem d_M_dayTotal_73 : decode b_M_dayTotal 73 = .ok (.if_icmp .ne (22), 3) := by decide +kernel
theorem d_M_dayTotal_76 : decode b_M_dayTotal 76 = .ok (.aload_n 0, 1) := by decide +kernel
theorem d_M_dayTotal_77 : decode b_M_dayTotal 77 = .ok (.iload 5, 2) := by decide +kernel
theorem d_M_dayTotal_79 : decode b_M_dayTotal 79 = .ok (.invokevirtual 152, 3) := by decide +kernel
theorem d_M_dayTotal_82 : decode b_M_dayTotal 82 = .ok (.ifCond .ne (13), 3) := by decide +kernel
theorem d_M_dayTotal_85 : decode b_M_dayTotal 85 = .ok (.lload_n 3, 1) := by decide +kernel
theorem d_M_dayTotal_86 : decode b_M_dayTotal 86 = .ok (.aload_n 0, 1) := by decide +kernel
theorem d_M_dayTotal_87 : decode b_M_dayTotal 87 = .ok (.iload 6, 2) := by decide +kernel
theorem d_M_dayTotal_89 : decode b_M_dayTotal 89 = .ok (.invokevirtual 160, 3) := by decide +kernel
theorem d_M_dayTotal_92 : decode b_M_dayTotal 92 = .ok (.i2l, 1) := by decide +kernel
theorem d_M_dayTotal_93 : decode b_M_dayTotal 93 = .ok (.ladd, 1) := by decide +kernel
theorem d_M_dayTotal_94 : decode b_M_dayTotal 94 = .ok (.lstore_n 3, 1) := by decide +kernel
theorem d_M_dayTotal_95 : decode b_M_dayTotal 95 = .ok (.iinc 5 1, 3) := by decide +kernel
theorem d_M_dayTotal_98 : decode b_M_dayTotal 98 = .ok (.goto (-71), 3) := by decide +kernel
theorem d_M_dayTotal_101 : decode b_M_dayTotal 101 = .ok (.lload_n 3, 1) := by decide +kernel
theorem d_M_dayTotal_102 : decode b_M_dayTotal 102 = .ok (.lreturn, 1) := by decide +kernel
theorem d_M_rangeTotal_0 : decode b_M_rangeTotal 0 = .ok (.aload_n 0, 1) := by decide +kernel
theorem d_M_rangeTotal_1 : decode b_M_rangeTotal 1 = .ok (.iconst 1, 1) := by decide +kernel
theorem d_M_rangeTotal_2 : decode b_M_rangeTotal 2 = .ok (.aload_n 0, 1) := by decide +kernel
theorem d_M_rangeTotal_3 : decode b_M_rangeTotal 3 = .ok (.getfield 23, 3) := by decide +kernel
theorem d_M_rangeTotal_6 : decode b_M_rangeTotal 6 = .ok (.ifCond .ne (7), 3) := by decide +kernel
theorem d_M_rangeTotal_9 : decode b_M_rangeTotal 9 = .ok (.iconst 1, 1) := by decide +kernel
theorem d_M_rangeTotal_10 : decode b_M_rangeTotal 10 = .ok (.goto (4), 3) := by decide +kernel
theorem d_M_rangeTotal_13 : decode b_M_rangeTotal 13 = .ok (.iconst 0, 1) := by decide +kernel
theorem d_M_rangeTotal_14 : decode b_M_rangeTotal 14 = .ok (.invokevirtual 137, 3) := by decide +kernel
theorem d_M_rangeTotal_17 : decode b_M_rangeTotal 17 = .ok (.ifCond .eq (5), 3) := by decide +kernel
theorem d_M_rangeTotal_20 : decode b_M_rangeTotal 20 = .ok (.lconst 0, 1) := by decide +kernel
theorem d_M_rangeTotal_21 : decode b_M_rangeTotal 21 = .ok (.lreturn, 1) := by decide +kernel
theorem d_M_rangeTotal_22 : decode b_M_rangeTotal 22 = .ok (.lconst 0, 1) := by decide +kernel
theorem d_M_rangeTotal_23 : decode b_M_rangeTotal 23 = .ok (.lstore_n 3, 1) := by decide +kernel
theorem d_M_rangeTotal_24 : decode b_M_rangeTotal 24 = .ok (.iconst 1, 1) := by decide +kernel
theorem d_M_rangeTotal_25 : decode b_M_rangeTotal 25 = .ok (.istore 5, 2) := by decide +kernel
theorem d_M_rangeTotal_27 : decode b_M_rangeTotal 27 = .ok (.iload 5, 2) := by decide +kernel
theorem d_M_rangeTotal_29 : decode b_M_rangeTotal 29 = .ok (.aload_n 0, 1) := by decide +kernel
theorem d_M_rangeTotal_30 : decode b_M_rangeTotal 30 = .ok (.invokevirtual 149, 3) := by decide +kernel
theorem d_M_rangeTotal_33 : decode b_M_rangeTotal 33 = .ok (.if_icmp .gt (44), 3) := by decide +kernel
theorem d_M_rangeTotal_36 : decode b_M_rangeTotal 36 = .ok (.iload 5, 2) := by decide +kernel
theorem d_M_rangeTotal_38 : decode b_M_rangeTotal 38 = .ok (.iload_n 1, 1) := by decide +kernel
theorem d_M_rangeTotal_39 : decode b_M_rangeTotal 39 = .ok (.if_icmp .lt (32), 3) := by decide +kernel
theorem d_M_rangeTotal_42 : decode b_M_rangeTotal 42 = .ok (.iload 5, 2) := by decide +kernel
theorem d_M_rangeTotal_44 : decode b_M_rangeTotal 44 = .ok (.iload_n 2, 1) := by decide +kernel
theorem d_M_rangeTotal_45 : decode b_M_rangeTotal 45 = .ok (.if_icmp .gt (26), 3) := by decide +kernel
theorem d_M_rangeTotal_48 : decode b_M_rangeTotal 48 = .ok (.aload_n 0, 1) := by decide +kernel
theorem d_M_rangeTotal_49 : decode b_M_rangeTotal 49 = .ok (.iload 5, 2) := by decide +kernel
theorem d_M_rangeTotal_51 : decode b_M_rangeTotal 51 = .ok (.invokevirtual 152, 3) := by decide +kernel
theorem d_M_rangeTotal_54 : decode b_M_rangeTotal 54 = .ok (.ifCond .ne (17), 3) := by decide +kernel
theorem d_M_rangeTotal_57 : decode b_M_rangeTotal 57 = .ok (.lload_n 3, 1) := by decide +kernel
theorem d_M_rangeTotal_58 : decode b_M_rangeTotal 58 = .ok (.aload_n 0, 1) := by decide +kernel
theorem d_M_rangeTotal_59 : decode b_M_rangeTotal 59 = .ok (.aload_n 0, 1) := by decide +kernel
theorem d_M_rangeTotal_60 : decode b_M_rangeTotal 60 = .ok (.iload 5, 2) := by decide +kernel
theorem d_M_rangeTotal_62 : decode b_M_rangeTotal 62 = .ok (.invokevirtual 127, 3) := by decide +kernel
theorem d_M_rangeTotal_65 : decode b_M_rangeTotal 65 = .ok (.invokevirtual 160, 3) := by decide +kernel
theorem d_M_rangeTotal_68 : decode b_M_rangeTotal 68 = .ok (.i2l, 1) := by decide +kernel
theorem d_M_rangeTotal_69 : decode b_M_rangeTotal 69 = .ok (.ladd, 1) := by decide +kernel
theorem d_M_rangeTotal_70 : decode b_M_rangeTotal 70 = .ok (.lstore_n 3, 1) := by decide +kernel
theorem d_M_rangeTotal_71 : decode b_M_rangeTotal 71 = .ok (.iinc 5 1, 3) := by decide +kernel
theorem d_M_rangeTotal_74 : decode b_M_rangeTotal 74 = .ok (.goto (-47), 3) := by decide +kernel
theorem d_M_rangeTotal_77 : decode b_M_rangeTotal 77 = .ok (.lload_n 3, 1) := by decide +kernel
theorem d_M_rangeTotal_78 : decode b_M_rangeTotal 78 = .ok (.lreturn, 1) := by decide +kernel
theorem d_M_find_0 : decode b_M_find 0 = .ok (.aload_n 0, 1) := by decide +kernel
theorem d_M_find_1 : decode b_M_find 1 = .ok (.iconst 1, 1) := by decide +kernel
theorem d_M_find_2 : decode b_M_find 2 = .ok (.aload_n 0, 1) := by decide +kernel
theorem d_M_find_3 : decode b_M_find 3 = .ok (.getfield 23, 3) := by decide +kernel
theorem d_M_find_6 : decode b_M_find 6 = .ok (.ifCond .ne (7), 3) := by decide +kernel
theorem d_M_find_9 : decode b_M_find 9 = .ok (.iconst 1, 1) := by decide +kernel
theorem d_M_find_10 : decode b_M_find 10 = .ok (.goto (4), 3) := by decide +kernel
theorem d_M_find_13 : decode b_M_find 13 = .ok (.iconst 0, 1) := by decide +kernel
theorem d_M_find_14 : decode b_M_find 14 = .ok (.invokevirtual 137, 3) := by decide +kernel
theorem d_M_find_17 : decode b_M_find 17 = .ok (.ifCond .eq (5), 3) := by decide +kernel
theorem d_M_find_20 : decode b_M_find 20 = .ok (.iconst 0, 1) := by decide +kernel
theorem d_M_find_21 : decode b_M_find 21 = .ok (.ireturn, 1) := by decide +kernel
theorem d_M_find_22 : decode b_M_find 22 = .ok (.iconst 1, 1) := by decide +kernel
theorem d_M_find_23 : decode b_M_find 23 = .ok (.istore_n 3, 1) := by decide +kernel
theorem d_M_find_24 : decode b_M_find 24 = .ok (.iload_n 3, 1) := by decide +kernel
theorem d_M_find_25 : decode b_M_find 25 = .ok (.aload_n 0, 1) := by decide +kernel
theorem d_M_find_26 : decode b_M_find 26 = .ok (.invokevirtual 149, 3) := by decide +kernel
theorem d_M_find_29 : decode b_M_find 29 = .ok (.if_icmp .gt (30), 3) := by decide +kernel
theorem d_M_find_32 : decode b_M_find 32 = .ok (.iload_n 3, 1) := by decide +kernel
theorem d_M_find_33 : decode b_M_find 33 = .ok (.iload_n 2, 1) := by decide +kernel
theorem d_M_find_34 : decode b_M_find 34 = .ok (.if_icmp .lt (19), 3) := by decide +kernel
theorem d_M_find_37 : decode b_M_find 37 = .ok (.aload_n 0, 1) := by decide +kernel
theorem d_M_find_38 : decode b_M_find 38 = .ok (.aload_n 0, 1) := by decide +kernel
theorem d_M_find_39 : decode b_M_find 39 = .ok (.iload_n 3, 1) := by decide +kernel
theorem d_M_find_40 : decode b_M_find 40 = .ok (.invokevirtual 127, 3) := by decide +kernel
theorem d_M_find_43 : decode b_M_find 43 = .ok (.iconst 0, 1) := by decide +kernel
theorem d_M_find_44 : decode b_M_find 44 = .ok (.invokevirtual 121, 3) := by decide +kernel
theorem d_M_find_47 : decode b_M_find 47 = .ok (.iload_n 1, 1) := by decide +kernel
theorem d_M_find_48 : decode b_M_find 48 = .ok (.if_icmp .ne (5), 3) := by decide +kernel
theorem d_M_find_51 : decode b_M_find 51 = .ok (.iload_n 3, 1) := by decide +kernel
theorem d_M_find_52 : decode b_M_find 52 = .ok (.ireturn, 1) := by decide +kernel
theorem d_M_find_53 : decode b_M_find 53 = .ok (.iinc 3 1, 3) := by decide +kernel
theorem d_M_find_56 : decode b_M_find 56 = .ok (.goto (-32), 3) := by decide +kernel
theorem d_M_find_59 : decode b_M_find 59 = .ok (.iconst 0, 1) := by decide +kernel
theorem d_M_find_60 : decode b_M_find 60 = .ok (.ireturn, 1) := by decide +kernel
theorem d_M_audit_0 : decode b_M_audit 0 = .ok (.aload_n 0, 1) := by decide +kernel
theorem d_M_audit_1 : decode b_M_audit 1 = .ok (.iconst 1, 1) := by decide +kernel
theorem d_M_audit_2 : decode b_M_audit 2 = .ok (.aload_n 0, 1) := by decide +kernel
theorem d_M_audit_3 : decode b_M_audit 3 = .ok (.getfield 23, 3) := by decide +kernel
theorem d_M_audit_6 : decode b_M_audit 6 = .ok (.ifCond .ne (7), 3) := by decide +kernel
theorem d_M_audit_9 : decode b_M_audit 9 = .ok (.iconst 1, 1) := by decide +kernel
theorem d_M_audit_10 : decode b_M_audit 10 = .ok (.goto (4), 3) := by decide +kernel
theorem d_M_audit_13 : decode b_M_audit 13 = .ok (.iconst 0, 1) := by decide +kernel
theorem d_M_audit_14 : decode b_M_audit 14 = .ok (.invokevirtual 137, 3) := by decide +kernel
theorem d_M_audit_17 : decode b_M_audit 17 = .ok (.ifCond .eq (5), 3) := by decide +kernel
theorem d_M_audit_20 : decode b_M_audit 20 = .ok (.iconst 0, 1) := by decide +kernel
theorem d_M_audit_21 : decode b_M_audit 21 = .ok (.ireturn, 1) := by decide +kernel
theorem d_M_audit_22 : decode b_M_audit 22 = .ok (.iconst 1, 1) := by decide +kernel
theorem d_M_audit_23 : decode b_M_audit 23 = .ok (.istore_n 3, 1) := by decide +kernel
theorem d_M_audit_24 : decode b_M_audit 24 = .ok (.iload_n 3, 1) := by decide +kernel
theorem d_M_audit_25 : decode b_M_audit 25 = .ok (.aload_n 0, 1) := by decide +kernel
theorem d_M_audit_26 : decode b_M_audit 26 = .ok (.invokevirtual 149, 3) := by decide +kernel
theorem d_M_audit_29 : decode b_M_audit 29 = .ok (.if_icmp .gt (33), 3) := by decide +kernel
theorem d_M_audit_32 : decode b_M_audit 32 = .ok (.iload_n 3, 1) := by decide +kernel
theorem d_M_audit_33 : decode b_M_audit 33 = .ok (.iload_n 1, 1) := by decide +kernel
theorem d_M_audit_34 : decode b_M_audit 34 = .ok (.if_icmp .lt (22), 3) := by decide +kernel
theorem d_M_audit_37 : decode b_M_audit 37 = .ok (.iload_n 3, 1) := by decide +kernel
theorem d_M_audit_38 : decode b_M_audit 38 = .ok (.iload_n 2, 1) := by decide +kernel
theorem d_M_audit_39 : decode b_M_audit 39 = .ok (.if_icmp .gt (17), 3) := by decide +kernel
theorem d_M_audit_42 : decode b_M_audit 42 = .ok (.aload_n 0, 1) := by decide +kernel
theorem d_M_audit_43 : decode b_M_audit 43 = .ok (.aload_n 0, 1) := by decide +kernel
theorem d_M_audit_44 : decode b_M_audit 44 = .ok (.iload_n 3, 1) := by decide +kernel
theorem d_M_audit_45 : decode b_M_audit 45 = .ok (.invokevirtual 127, 3) := by decide +kernel
theorem d_M_audit_48 : decode b_M_audit 48 = .ok (.invokevirtual 169, 3) := by decide +kernel
theorem d_M_audit_51 : decode b_M_audit 51 = .ok (.ifCond .eq (5), 3) := by decide +kernel
theorem d_M_audit_54 : decode b_M_audit 54 = .ok (.iload_n 3, 1) := by decide +kernel
theorem d_M_audit_55 : decode b_M_audit 55 = .ok (.ireturn, 1) := by decide +kernel
theorem d_M_audit_56 : decode b_M_audit 56 = .ok (.iinc 3 1, 3) := by decide +kernel
theorem d_M_audit_59 : decode b_M_audit 59 = .ok (.goto (-35), 3) := by decide +kernel
theorem d_M_audit_62 : decode b_M_audit 62 = .ok (.iconst 0, 1) := by decide +kernel
theorem d_M_audit_63 : decode b_M_audit 63 = .ok (.ireturn, 1) := by decide +kernel
theorem d_M_exportByte_0 : decode b_M_exportByte 0 = .ok (.aload_n 0, 1) := by decide +kernel
theorem d_M_exportByte_1 : decode b_M_exportByte 1 = .ok (.iconst 1, 1) := by decide +kernel
theorem d_M_exportByte_2 : decode b_M_exportByte 2 = .ok (.aload_n 0, 1) := by decide +kernel
theorem d_M_exportByte_3 : decode b_M_exportByte 3 = .ok (.getfield 23, 3) := by decide +kernel
theorem d_M_exportByte_6 : decode b_M_exportByte 6 = .ok (.ifCond .ne (7), 3) := by decide +kernel
theorem d_M_exportByte_9 : decode b_M_exportByte 9 = .ok (.iconst 1, 1) := by decide +kernel
theorem d_M_exportByte_10 : decode b_M_exportByte 10 = .ok (.goto (4), 3) := by decide +kernel
theorem d_M_exportByte_13 : decode b_M_exportByte 13 = .ok (.iconst 0, 1) := by decide +kernel
theorem d_M_exportByte_14 : decode b_M_exportByte 14 = .ok (.invokevirtual 137, 3) := by decide +kernel
theorem d_M_exportByte_17 : decode b_M_exportByte 17 = .ok (.ifCond .eq (5), 3) := by decide +kernel
theorem d_M_exportByte_20 : decode b_M_exportByte 20 = .ok (.iconst 0, 1) := by decide +kernel
theorem d_M_exportByte_21 : decode b_M_exportByte 21 = .ok (.ireturn, 1) := by decide +kernel
theorem d_M_exportByte_22 : decode b_M_exportByte 22 = .ok (.aload_n 0, 1) := by decide +kernel
theorem d_M_exportByte_23 : decode b_M_exportByte 23 = .ok (.iconst 0, 1) := by decide +kernel
theorem d_M_exportByte_24 : decode b_M_exportByte 24 = .ok (.putfield 172, 3) := by decide +kernel
theorem d_M_exportByte_27 : decode b_M_exportByte 27 = .ok (.aload_n 0, 1) := by decide +kernel
theorem d_M_exportByte_28 : decode b_M_exportByte 28 = .ok (.iload_n 3, 1) := by decide +kernel
theorem d_M_exportByte_29 : decode b_M_exportByte 29 = .ok (.putfield 175, 3) := by decide +kernel
theorem d_M_exportByte_32 : decode b_M_exportByte 32 = .ok (.aload_n 0, 1) := by decide +kernel
theorem d_M_exportByte_33 : decode b_M_exportByte 33 = .ok (.iconst (-1), 1) := by decide +kernel
theorem d_M_exportByte_34 : decode b_M_exportByte 34 = .ok (.putfield 178, 3) := by decide +kernel
theorem d_M_exportByte_37 : decode b_M_exportByte 37 = .ok (.iconst 1, 1) := by decide +kernel
theorem d_M_exportByte_38 : decode b_M_exportByte 38 = .ok (.istore 4, 2) := by decide +kernel
theorem d_M_exportByte_40 : decode b_M_exportByte 40 = .ok (.iload 4, 2) := by decide +kernel
theorem d_M_exportByte_42 : decode b_M_exportByte 42 = .ok (.aload_n 0, 1) := by decide +kernel
theorem d_M_exportByte_43 : decode b_M_exportByte 43 = .ok (.invokevirtual 149, 3) := by decide +kernel
theorem d_M_exportByte_46 : decode b_M_exportByte 46 = .ok (.if_icmp .gt (122), 3) := by decide +kernel
theorem d_M_exportByte_49 : decode b_M_exportByte 49 = .ok (.iload 4, 2) := by decide +kernel
theorem d_M_exportByte_51 : decode b_M_exportByte 51 = .ok (.iload_n 1, 1) := by decide +kernel
theorem d_M_exportByte_52 : decode b_M_exportByte 52 = .ok (.if_icmp .lt (110), 3) := by decide +kernel
theorem d_M_exportByte_55 : decode b_M_exportByte 55 = .ok (.iload 4, 2) := by decide +kernel
theorem d_M_exportByte_57 : decode b_M_exportByte 57 = .ok (.iload_n 2, 1) := by decide +kernel
theorem d_M_exportByte_58 : decode b_M_exportByte 58 = .ok (.if_icmp .le (6), 3) := by decide +kernel
theorem d_M_exportByte_61 : decode b_M_exportByte 61 = .ok (.goto (101), 3) := by decide +kernel
theorem d_M_exportByte_64 : decode b_M_exportByte 64 = .ok (.aload_n 0, 1) := by decide +kernel
theorem d_M_exportByte_65 : decode b_M_exportByte 65 = .ok (.iload 4, 2) := by decide +kernel
theorem d_M_exportByte_67 : decode b_M_exportByte 67 = .ok (.invokevirtual 127, 3) := by decide +kernel
theorem d_M_exportByte_70 : decode b_M_exportByte 70 = .ok (.istore 5, 2) := by decide +kernel
theorem d_M_exportByte_72 : decode b_M_exportByte 72 = .ok (.aload_n 0, 1) := by decide +kernel
theorem d_M_exportByte_73 : decode b_M_exportByte 73 = .ok (.iload 4, 2) := by decide +kernel
theorem d_M_exportByte_75 : decode b_M_exportByte 75 = .ok (.i2l, 1) := by decide +kernel
theorem d_M_exportByte_76 : decode b_M_exportByte 76 = .ok (.invokevirtual 191, 3) := by decide +kernel
theorem d_M_exportByte_79 : decode b_M_exportByte 79 = .ok (.aload_n 0, 1) := by decide +kernel
theorem d_M_exportByte_80 : decode b_M_exportByte 80 = .ok (.bipush 32, 2) := by decide +kernel
theorem d_M_exportByte_82 : decode b_M_exportByte 82 = .ok (.invokevirtual 181, 3) := by decide +kernel
theorem d_M_exportByte_85 : decode b_M_exportByte 85 = .ok (.aload_n 0, 1) := by decide +kernel
theorem d_M_exportByte_86 : decode b_M_exportByte 86 = .ok (.aload_n 0, 1) := by decide +kernel
theorem d_M_exportByte_87 : decode b_M_exportByte 87 = .ok (.iload 5, 2) := by decide +kernel
theorem d_M_exportByte_89 : decode b_M_exportByte 89 = .ok (.iconst 0, 1) := by decide +kernel
theorem d_M_exportByte_90 : decode b_M_exportByte 90 = .ok (.invokevirtual 121, 3) := by decide +kernel
theorem d_M_exportByte_93 : decode b_M_exportByte 93 = .ok (.i2l, 1) := by decide +kernel
theorem d_M_exportByte_94 : decode b_M_exportByte 94 = .ok (.invokevirtual 191, 3) := by decide +kernel
theorem d_M_exportByte_97 : decode b_M_exportByte 97 = .ok (.aload_n 0, 1) := by decide +kernel
theorem d_M_exportByte_98 : decode b_M_exportByte 98 = .ok (.bipush 32, 2) := by decide +kernel
theorem d_M_exportByte_100 : decode b_M_exportByte 100 = .ok (.invokevirtual 181, 3) := by decide +kernel
theorem d_M_exportByte_103 : decode b_M_exportByte 103 = .ok (.aload_n 0, 1) := by decide +kernel
theorem d_M_exportByte_104 : decode b_M_exportByte 104 = .ok (.aload_n 0, 1) := by decide +kernel
theorem d_M_exportByte_105 : decode b_M_exportByte 105 = .ok (.iload 5, 2) := by decide +kernel
theorem d_M_exportByte_107 : decode b_M_exportByte 107 = .ok (.invokevirtual 160, 3) := by decide +kernel
theorem d_M_exportByte_110 : decode b_M_exportByte 110 = .ok (.i2l, 1) := by decide +kernel
theorem d_M_exportByte_111 : decode b_M_exportByte 111 = .ok (.invokevirtual 191, 3) := by decide +kernel
theorem d_M_exportByte_114 : decode b_M_exportByte 114 = .ok (.aload_n 0, 1) := by decide +kernel
theorem d_M_exportByte_115 : decode b_M_exportByte 115 = .ok (.bipush 32, 2) := by decide +kernel
theorem d_M_exportByte_117 : decode b_M_exportByte 117 = .ok (.invokevirtual 181, 3) := by decide +kernel
theorem d_M_exportByte_120 : decode b_M_exportByte 120 = .ok (.aload_n 0, 1) := by decide +kernel
theorem d_M_exportByte_121 : decode b_M_exportByte 121 = .ok (.aload_n 0, 1) := by decide +kernel
theorem d_M_exportByte_122 : decode b_M_exportByte 122 = .ok (.iload 5, 2) := by decide +kernel
theorem d_M_exportByte_124 : decode b_M_exportByte 124 = .ok (.iconst 2, 1) := by decide +kernel
theorem d_M_exportByte_125 : decode b_M_exportByte 125 = .ok (.invokevirtual 121, 3) := by decide +kernel
theorem d_M_exportByte_128 : decode b_M_exportByte 128 = .ok (.bipush 26, 2) := by decide +kernel
theorem d_M_exportByte_130 : decode b_M_exportByte 130 = .ok (.iushr, 1) := by decide +kernel
theorem d_M_exportByte_131 : decode b_M_exportByte 131 = .ok (.i2l, 1) := by decide +kernel
theorem d_M_exportByte_132 : decode b_M_exportByte 132 = .ok (.invokevirtual 191, 3) := by decide +kernel
theorem d_M_exportByte_135 : decode b_M_exportByte 135 = .ok (.aload_n 0, 1) := by decide +kernel
theorem d_M_exportByte_136 : decode b_M_exportByte 136 = .ok (.iload 4, 2) := by decide +kernel
theorem d_M_exportByte_138 : decode b_M_exportByte 138 = .ok (.invokevirtual 152, 3) := by decide +kernel
theorem d_M_exportByte_141 : decode b_M_exportByte 141 = .ok (.ifCond .le (15), 3) := by decide +kernel
theorem d_M_exportByte_144 : decode b_M_exportByte 144 = .ok (.aload_n 0, 1) := by decide +kernel
theorem d_M_exportByte_145 : decode b_M_exportByte 145 = .ok (.bipush 32, 2) := by decide +kernel
theorem d_M_exportByte_147 : decode b_M_exportByte 147 = .ok (.invokevirtual 181, 3) := by decide +kernel
theorem d_M_exportByte_150 : decode b_M_exportByte 150 = .ok (.aload_n 0, 1) := by decide +kernel
theorem d_M_exportByte_151 : decode b_M_exportByte 151 = .ok (.bipush 86, 2) := by decide +kernel
theorem d_M_exportByte_153 : decode b_M_exportByte 153 = .ok (.invokevirtual 181, 3) := by decide +kernel
theorem d_M_exportByte_156 : decode b_M_exportByte 156 = .ok (.aload_n 0, 1) := by decide +kernel
theorem d_M_exportByte_157 : decode b_M_exportByte 157 = .ok (.bipush 10, 2) := by decide +kernel
theorem d_M_exportByte_159 : decode b_M_exportByte 159 = .ok (.invokevirtual 181, 3) := by decide +kernel
theorem d_M_exportByte_162 : decode b_M_exportByte 162 = .ok (.iinc 4 1, 3) := by decide +kernel
theorem d_M_exportByte_165 : decode b_M_exportByte 165 = .ok (.goto (-125), 3) := by decide +kernel
theorem d_M_exportByte_168 : decode b_M_exportByte 168 = .ok (.aload_n 0, 1) := by decide +kernel
theorem d_M_exportByte_169 : decode b_M_exportByte 169 = .ok (.getfield 178, 3) := by decide +kernel
theorem d_M_exportByte_172 : decode b_M_exportByte 172 = .ok (.ireturn, 1) := by decide +kernel
end
section
set_option maxHeartbeats 4000000 in
set_option maxRecDepth 100000 in
theorem c_C_isPowered (l : Launch) (dC : Nat → ClassId) (dI : Nat → Nat → Nat) (ad cd : Nat → Nat) (w wr fl : Nat → Int32) (pw sc : Int32) (lw rot vb : Nat → Int32) (rec tk : Int32) (live row : Nat → Int32) (cur ser dur wo : Int32) (bts : Nat → Int32) (us : Int32) (act : Nat → Int32) (rd rs : Int32)  (hpw : narrow .boolean (.int pw) = .int pw) : Met l y_C_isPowered w_C_isPowered ({ frames := 0, cells := 0, slots := 0, locals := 0 }) (xR (dC, dI) vwCl (xt cd) (xw ad cd w wr fl pw sc lw rot vb rec tk live row cur ser dur wo bts us act rd rs) [.ref (ad 2)]) (vp_Si (fun r => r = pw)) 0 0 (fun _ => False) := by
  refine Met.ofW (cc := b_C_isPowered) (maxL := 1) (ret := (some (.boolean))) (by decide) rfl ?_
  intro P e s m args below meth c0 s₁ B hml hv
  obtain ⟨rfl, hP, hK⟩ := hv
  have hx := B.exec
  have hb := B.bytes
  have hr := B.returns
  have hts := atoms_spec (ws := w_C_isPowered) B.pre
  have hown : s.vm.findClass R_C = some m.cls := findClass_of_methodNamed B.named
  have hlocks := B.notSynchronized
  have hl := lv_entry ([.ref (ad 2)]) (n := 1) (Nat.le_of_ble_eq_true rfl)
  rw [lg_entry_eq]
  generalize (lg_sl ([.ref (ad 2)]) ++ List.replicate (1 - (lg_sl ([.ref (ad 2)])).length) Slot.unset).toArray = ls at hl ⊢
  have hl : lv_has ls 1 [(0, .ref (ad 2))] := hl
  refine lv_aload_n hx hb d_C_isPowered_0 rfl (lv_at hl 0 rfl) ?_
  refine va_get (D := (dC, dI)) (ci := 0) (v := .int pw) (C := R_C) (T := F_C) (N := 5) hx hb hts (fun w h => List.mem_cons_of_mem _ (in_C w h)) hown hK hP 2 rfl rfl 3 (by decide) (hts (.fieldLink R_C 22 R_C "powered" "Z") (List.mem_cons_of_mem _ t_37)) (fun _ h9 => h9) rfl d_C_isPowered_1 ?_
  exact W.zret (v := pw) hx hb hr (hpw) (fun t ht hW => ⟨pw, rfl, by first | rfl | trivial | omega, ht⟩) (fun q hq => by cases hq) d_C_isPowered_4
set_option maxHeartbeats 4000000 in
set_option maxRecDepth 100000 in
theorem c_C_read (l : Launch) (dC : Nat → ClassId) (dI : Nat → Nat → Nat) (ad cd : Nat → Nat) (w wr fl : Nat → Int32) (pw sc : Int32) (lw rot vb : Nat → Int32) (rec tk : Int32) (live row : Nat → Int32) (cur ser dur wo : Int32) (bts : Nat → Int32) (us : Int32) (act : Nat → Int32) (rd rs : Int32) (pa k : Nat) (hp : pa < 32) (hk : k < 16) : Met l y_C_read w_C_read ({ frames := 0, cells := 0, slots := 0, locals := 0 }) (xR (dC, dI) vwCl (xt cd) (xw ad cd w wr fl pw sc lw rot vb rec tk live row cur ser dur wo bts us act rd rs) [.ref (ad 2), .int (nI pa), .int (nI k)]) (vp_Si (fun r => r = w (16 * pa + k))) 0 0 (fun _ => False) := by
  refine Met.ofW (cc := b_C_read) (maxL := 3) (ret := (some (.int))) (by decide) rfl ?_
  intro P e s m args below meth c0 s₁ B hml hv
  obtain ⟨rfl, hP, hK⟩ := hv
  have hx := B.exec
  have hb := B.bytes
  have hr := B.returns
  have hts := atoms_spec (ws := w_C_read) B.pre
  have hown : s.vm.findClass R_C = some m.cls := findClass_of_methodNamed B.named
  have hlocks := B.notSynchronized
  have hl := lv_entry ([.ref (ad 2), .int (nI pa), .int (nI k)]) (n := 3) (Nat.le_of_ble_eq_true rfl)
  rw [lg_entry_eq]
  generalize (lg_sl ([.ref (ad 2), .int (nI pa), .int (nI k)]) ++ List.replicate (3 - (lg_sl ([.ref (ad 2), .int (nI pa), .int (nI k)])).length) Slot.unset).toArray = ls at hl ⊢
  have hl : lv_has ls 3 [(0, .ref (ad 2)), (1, .int (nI pa)), (2, .int (nI k))] := hl
  refine lv_aload_n hx hb d_C_read_0 rfl (lv_at hl 0 rfl) ?_
  refine va_get (D := (dC, dI)) (ci := 0) (v := .ref (ad 8)) (C := R_C) (T := F_C) (N := 5) hx hb hts (fun w h => List.mem_cons_of_mem _ (in_C w h)) hown hK hP 2 rfl rfl 0 (by decide) (hts (.fieldLink R_C 9 R_C "words" "[I") (List.mem_cons_of_mem _ t_34)) (fun _ h9 => h9) rfl d_C_read_1 ?_
  refine lv_iload_n hx hb d_C_read_4 rfl (lv_at hl 1 rfl) ?_
  refine lv_bipush (v := nI 16) hx hb d_C_read_5 (by decide) ?_
  refine lv_imul hx hb d_C_read_7 ?_
  refine tp_i (y := nI (pa * 16)) (pk_mul _ _) ?_
  refine lv_iload_n hx hb d_C_read_8 rfl (lv_at hl 2 rfl) ?_
  refine lv_iadd hx hb d_C_read_9 ?_
  refine tp_i (y := nI ((pa * 16) + k)) (nI_add _ _) ?_
  refine va_iald hx hb hK hP 8 3 rfl rfl (vp_in_nI (by omega) (by decide)) d_C_read_10 ?_
  refine tp_i (y := w ((pa * 16) + k)) (by rw [nI_clamp (by omega)]) ?_
  exact W.iret (v := w ((pa * 16) + k)) hx hb hr (fun t ht hW => ⟨w ((pa * 16) + k), rfl, by rw [Nat.mul_comm 16 pa], ht⟩) (fun q hq => by cases hq) d_C_read_11
set_option maxHeartbeats 4000000 in
set_option maxRecDepth 100000 in
theorem c_C_wearAt (l : Launch) (dC : Nat → ClassId) (dI : Nat → Nat → Nat) (ad cd : Nat → Nat) (w wr fl : Nat → Int32) (pw sc : Int32) (lw rot vb : Nat → Int32) (rec tk : Int32) (live row : Nat → Int32) (cur ser dur wo : Int32) (bts : Nat → Int32) (us : Int32) (act : Nat → Int32) (rd rs : Int32) (b : Nat) (hp : b < 8) : Met l y_C_wearAt w_C_wearAt ({ frames := 0, cells := 0, slots := 0, locals := 0 }) (xR (dC, dI) vwCl (xt cd) (xw ad cd w wr fl pw sc lw rot vb rec tk live row cur ser dur wo bts us act rd rs) [.ref (ad 2), .int (nI b)]) (vp_Si (fun r => r = wr b)) 0 0 (fun _ => False) := by
  refine Met.ofW (cc := b_C_wearAt) (maxL := 2) (ret := (some (.int))) (by decide) rfl ?_
  intro P e s m args below meth c0 s₁ B hml hv
  obtain ⟨rfl, hP, hK⟩ := hv
  have hx := B.exec
  have hb := B.bytes
  have hr := B.returns
  have hts := atoms_spec (ws := w_C_wearAt) B.pre
  have hown : s.vm.findClass R_C = some m.cls := findClass_of_methodNamed B.named
  have hlocks := B.notSynchronized
  have hl := lv_entry ([.ref (ad 2), .int (nI b)]) (n := 2) (Nat.le_of_ble_eq_true rfl)
  rw [lg_entry_eq]
  generalize (lg_sl ([.ref (ad 2), .int (nI b)]) ++ List.replicate (2 - (lg_sl ([.ref (ad 2), .int (nI b)])).length) Slot.unset).toArray = ls at hl ⊢
  have hl : lv_has ls 2 [(0, .ref (ad 2)), (1, .int (nI b))] := hl
  refine lv_aload_n hx hb d_C_wearAt_0 rfl (lv_at hl 0 rfl) ?_
  refine va_get (D := (dC, dI)) (ci := 0) (v := .ref (ad 9)) (C := R_C) (T := F_C) (N := 5) hx hb hts (fun w h => List.mem_cons_of_mem _ (in_C w h)) hown hK hP 2 rfl rfl 1 (by decide) (hts (.fieldLink R_C 15 R_C "wear" "[I") (List.mem_cons_of_mem _ t_35)) (fun _ h9 => h9) rfl d_C_wearAt_1 ?_
  refine lv_iload_n hx hb d_C_wearAt_4 rfl (lv_at hl 1 rfl) ?_
  refine va_iald hx hb hK hP 9 4 rfl rfl (vp_in_nI (by omega) (by decide)) d_C_wearAt_5 ?_
  refine tp_i (y := wr b) (by rw [nI_clamp (by omega)]) ?_
  exact W.iret (v := wr b) hx hb hr (fun t ht hW => ⟨wr b, rfl, by first | rfl | trivial | omega, ht⟩) (fun q hq => by cases hq) d_C_wearAt_6
set_option maxHeartbeats 4000000 in
set_option maxRecDepth 100000 in
theorem c_C_isFree (l : Launch) (dC : Nat → ClassId) (dI : Nat → Nat → Nat) (ad cd : Nat → Nat) (w wr fl : Nat → Int32) (pw sc : Int32) (lw rot vb : Nat → Int32) (rec tk : Int32) (live row : Nat → Int32) (cur ser dur wo : Int32) (bts : Nat → Int32) (us : Int32) (act : Nat → Int32) (rd rs : Int32) (pa : Nat) (hp : pa < 32) : Met l y_C_isFree w_C_isFree ({ frames := 0, cells := 0, slots := 0, locals := 0 }) (xR (dC, dI) vwCl (xt cd) (xw ad cd w wr fl pw sc lw rot vb rec tk live row cur ser dur wo bts us act rd rs) [.ref (ad 2), .int (nI pa)]) (vp_Si (fun r => (r = 1 ∧ fp w pa) ∨ (r = 0 ∧ ¬ fp w pa))) 0 0 (fun _ => False) := by
  refine Met.ofW (cc := b_C_isFree) (maxL := 4) (ret := (some (.boolean))) (by decide) rfl ?_
  intro P e s m args below meth c0 s₁ B hml hv
  obtain ⟨rfl, hP, hK⟩ := hv
  have hx := B.exec
  have hb := B.bytes
  have hr := B.returns
  have hts := atoms_spec (ws := w_C_isFree) B.pre
  have hown : s.vm.findClass R_C = some m.cls := findClass_of_methodNamed B.named
  have hlocks := B.notSynchronized
  have hl := lv_entry ([.ref (ad 2), .int (nI pa)]) (n := 4) (Nat.le_of_ble_eq_true rfl)
  rw [lg_entry_eq]
  generalize (lg_sl ([.ref (ad 2), .int (nI pa)]) ++ List.replicate (4 - (lg_sl ([.ref (ad 2), .int (nI pa)])).length) Slot.unset).toArray = ls at hl ⊢
  have hl : lv_has ls 4 [(0, .ref (ad 2)), (1, .int (nI pa))] := hl
  refine lv_iload_n hx hb d_C_isFree_0 rfl (lv_at hl 1 rfl) ?_
  refine lv_bipush (v := nI 16) hx hb d_C_isFree_1 (by decide) ?_
  refine lv_imul hx hb d_C_isFree_3 ?_
  refine tp_i (y := nI (pa * 16)) (pk_mul _ _) ?_
  refine lv_istore_n hx hb d_C_isFree_4 rfl hl (by decide) rfl (fun ls hl => ?_)
  have hl : lv_has ls 4 [(2, .int (nI (pa * 16))), (0, .ref (ad 2)), (1, .int (nI pa))] := hl
  refine lv_iload_n hx hb d_C_isFree_5 rfl (lv_at hl 0 rfl) ?_
  refine lv_istore_n hx hb d_C_isFree_6 rfl hl (by decide) rfl (fun ls hl => ?_)
  have hl : lv_has ls 4 [(3, .int (nI (pa * 16))), (2, .int (nI (pa * 16))), (0, .ref (ad 2)), (1, .int (nI pa))] := hl
  have lp7 : ∀ (n : Nat) (k : Nat) (ls : Array Slot), (16 - k) < n → (k ≤ 16) → (∀ i, i < k → w (16 * pa + i) = -1) → lv_has ls 4 [(0, .ref (ad 2)), (1, .int (nI pa)), (2, .int (nI (pa * 16))), (3, .int (nI (pa * 16 + k)))] → W P l e (headSpec w_C_isFree ({ frames := 0, cells := 0, slots := 0, locals := 0 })).room s m (([.ref (ad 2), .int (nI pa)] : List Value).toArray) below meth c0 s.heap [] 0 0 (MQ below (vp_Si (fun r => (r = 1 ∧ fp w pa) ∨ (r = 0 ∧ ¬ fp w pa))) (([.ref (ad 2), .int (nI pa)] : List Value).toArray) s 0 0 (fun _ => False)) (F0 m 7 ls []) := by
    intro n
    induction n with
    | zero => intro k ls hm; intros; omega
    | succ n ih7 =>
      intro k ls hm hk hf hl
      refine lv_iload_n hx hb d_C_isFree_7 rfl (lv_at hl 3 rfl) ?_
      refine lv_iload_n hx hb d_C_isFree_8 rfl (lv_at hl 2 rfl) ?_
      refine lv_bipush (v := nI 16) hx hb d_C_isFree_9 (by decide) ?_
      refine lv_iadd hx hb d_C_isFree_11 ?_
      refine tp_i (y := nI ((pa * 16) + 16)) (nI_add _ _) ?_
      refine lv_icmp_ge (tgt := 33) hx hb d_C_isFree_12 (by decide) (fun c12 => ?_) (fun c12 => ?_)
      ·
        have c12 := cd_ge_t (by omega) (by omega) c12
        refine lv_iconst (v := 1) hx hb d_C_isFree_33 (by decide) ?_
        exact W.zret (v := 1) hx hb hr (by first | rfl | decide | assumption) (fun t ht hW => ⟨1, rfl, Or.inl ⟨rfl, fun i hi => hf i (by omega)⟩, ht⟩) (fun q hq => by cases hq) d_C_isFree_34
      ·
        have c12 := cd_ge_f (by omega) (by omega) c12
        refine lv_aload_n hx hb d_C_isFree_15 rfl (lv_at hl 0 rfl) ?_
        refine va_get (D := (dC, dI)) (ci := 0) (v := .ref (ad 8)) (C := R_C) (T := F_C) (N := 5) hx hb hts (fun w h => List.mem_cons_of_mem _ (in_C w h)) hown hK hP 2 rfl rfl 0 (by decide) (hts (.fieldLink R_C 9 R_C "words" "[I") (List.mem_cons_of_mem _ t_34)) (fun _ h9 => h9) rfl d_C_isFree_16 ?_
        refine lv_iload_n hx hb d_C_isFree_19 rfl (lv_at hl 3 rfl) ?_
        refine va_iald hx hb hK hP 8 3 rfl rfl (vp_in_nI (by omega) (by decide)) d_C_isFree_20 ?_
        refine tp_i (y := w (pa * 16 + k)) (by rw [nI_clamp (by omega)]) ?_
        refine lv_iconst (v := (-1)) hx hb d_C_isFree_21 (by decide) ?_
        refine lv_icmp_eq (tgt := 27) hx hb d_C_isFree_22 (by decide) (fun c22 => ?_) (fun c22 => ?_)
        ·
          refine lv_iinc (k := 3) (v := nI ((pa * 16 + k) + 1)) hx hb d_C_isFree_27 hl rfl (nI_1 _) (by decide) rfl (fun ls hl => ?_)
          have hl : lv_has ls 4 [(3, .int (nI ((pa * 16 + k) + 1))), (0, .ref (ad 2)), (1, .int (nI pa)), (2, .int (nI (pa * 16)))] := hl
          refine lv_goto (tgt := 7) hx hb d_C_isFree_30 (by decide) ?_
          exact ih7 (k + 1) ls (by omega) (by omega) (lt_s hf (by rw [Nat.mul_comm 16 pa]; exact c22)) (lv_sub hl [1, 2, 3, 0] rfl)
        ·
          refine lv_iconst (v := 0) hx hb d_C_isFree_25 (by decide) ?_
          exact W.zret (v := 0) hx hb hr (by first | rfl | decide | assumption) (fun t ht hW => ⟨0, rfl, Or.inr ⟨rfl, fun h => c22 (by have := h k (by omega); rw [Nat.mul_comm 16 pa] at this; exact this)⟩, ht⟩) (fun q hq => by cases hq) d_C_isFree_26
  exact lp7 _ 0 ls (Nat.lt_succ_self _) (by omega) (fun i hi => absurd hi (Nat.not_lt_zero i)) (lv_sub hl [2, 3, 1, 0] rfl)
set_option maxHeartbeats 4000000 in
set_option maxRecDepth 100000 in
theorem c_C_isRight_f (l : Launch) (dC : Nat → ClassId) (dI : Nat → Nat → Nat) (ad cd : Nat → Nat) (w wr fl : Nat → Int32) (pw sc : Int32) (lw rot vb : Nat → Int32) (rec tk : Int32) (live row : Nat → Int32) (cur ser dur wo : Int32) (bts : Nat → Int32) (us : Int32) (act : Nat → Int32) (rd rs : Int32) (pa : Nat) (hp : pa < 32) (hw : w (16 * pa + 0) = -1) : Met l y_C_isRight w_C_isRight ({ frames := 1, cells := 0, slots := 0, locals := 22 }) (xR (dC, dI) vwCl (xt cd) (xw ad cd w wr fl pw sc lw rot vb rec tk live row cur ser dur wo bts us act rd rs) [.ref (ad 2), .int (nI pa)]) (vp_Si (fun r => r = 0)) 0 0 (fun _ => False) := by
  refine Met.ofW (cc := b_C_isRight) (maxL := 3) (ret := (some (.boolean))) (by decide) rfl ?_
  intro P e s m args below meth c0 s₁ B hml hv
  obtain ⟨rfl, hP, hK⟩ := hv
  have hx := B.exec
  have hb := B.bytes
  have hr := B.returns
  have hts := atoms_spec (ws := w_C_isRight) B.pre
  have hown : s.vm.findClass R_C = some m.cls := findClass_of_methodNamed B.named
  have hlocks := B.notSynchronized
  have hl := lv_entry ([.ref (ad 2), .int (nI pa)]) (n := 3) (Nat.le_of_ble_eq_true rfl)
  rw [lg_entry_eq]
  generalize (lg_sl ([.ref (ad 2), .int (nI pa)]) ++ List.replicate (3 - (lg_sl ([.ref (ad 2), .int (nI pa)])).length) Slot.unset).toArray = ls at hl ⊢
  have hl : lv_has ls 3 [(0, .ref (ad 2)), (1, .int (nI pa))] := hl
  refine lv_aload_n hx hb d_C_isRight_0 rfl (lv_at hl 0 rfl) ?_
  refine lv_iload_n hx hb d_C_isRight_1 rfl (lv_at hl 1 rfl) ?_
  refine lv_iconst (v := nI 0) hx hb d_C_isRight_2 (by decide) ?_
  refine vp_callSi (va_runV (C := R_C) (As := [.int (nI pa), .int (nI 0)]) (rest := []) ⟨hx, hb, hml, hown, hts⟩ (c_C_read l dC dI ad cd w wr fl pw sc lw rot vb rec tk live row cur ser dur wo bts us act rd rs pa 0 (by first | omega | rfl | assumption | decide) (by first | omega | rfl | assumption | decide)) (cwV 2 hts (g_V t_164 t_165 t_166 t_3 t_167) rfl rfl rfl (by decide +kernel) ⟨by decide, by decide⟩) (xR_v hP hK 2 rfl rfl) rfl rfl hl.1 rfl (lv_room (Nat.le_of_ble_eq_true rfl)) d_C_isRight_3 ⟨Nat.le_refl _, Nat.le_refl _⟩).run (fun r3 q3 => ?_)
  subst q3
  refine lv_istore_n hx hb d_C_isRight_6 rfl hl (by decide) rfl (fun ls hl => ?_)
  have hl : lv_has ls 3 [(2, .int (w (16 * pa + 0))), (0, .ref (ad 2)), (1, .int (nI pa))] := hl
  refine lv_iload_n hx hb d_C_isRight_7 rfl (lv_at hl 0 rfl) ?_
  refine lv_if_le (tgt := 62) hx hb d_C_isRight_8 (by decide) (fun c8 => ?_) (fun c8 => ?_)
  ·
    refine lv_iconst (v := 0) hx hb d_C_isRight_62 (by decide) ?_
    exact W.zret (v := 0) hx hb hr (by first | rfl | decide | assumption) (fun t ht hW => ⟨0, rfl, by first | rfl | trivial | omega, ht⟩) (fun q hq => by cases hq) d_C_isRight_63
  ·
    exact absurd (show (w (16 * pa + 0) : Int32) ≤ 0 by rw [hw]; decide) c8
set_option maxHeartbeats 4000000 in
set_option maxRecDepth 100000 in
theorem c_C_freePagesOf_f (l : Launch) (dC : Nat → ClassId) (dI : Nat → Nat → Nat) (ad cd : Nat → Nat) (w wr fl : Nat → Int32) (pw sc : Int32) (lw rot vb : Nat → Int32) (rec tk : Int32) (live row : Nat → Int32) (cur ser dur wo : Int32) (bts : Nat → Int32) (us : Int32) (act : Nat → Int32) (rd rs : Int32) (b : Nat) (hp : b < 8) (hw : ∀ i, i < 512 → w i = -1) : Met l y_C_freePagesOf w_C_freePagesOf ({ frames := 1, cells := 0, slots := 0, locals := 23 }) (xR (dC, dI) vwCl (xt cd) (xw ad cd w wr fl pw sc lw rot vb rec tk live row cur ser dur wo bts us act rd rs) [.ref (ad 2), .int (nI b)]) (vp_Si (fun r => r = nI 4)) 0 0 (fun _ => False) := by
  refine Met.ofW (cc := b_C_freePagesOf) (maxL := 4) (ret := (some (.int))) (by decide) rfl ?_
  intro P e s m args below meth c0 s₁ B hml hv
  obtain ⟨rfl, hP, hK⟩ := hv
  have hx := B.exec
  have hb := B.bytes
  have hr := B.returns
  have hts := atoms_spec (ws := w_C_freePagesOf) B.pre
  have hown : s.vm.findClass R_C = some m.cls := findClass_of_methodNamed B.named
  have hlocks := B.notSynchronized
  have hl := lv_entry ([.ref (ad 2), .int (nI b)]) (n := 4) (Nat.le_of_ble_eq_true rfl)
  rw [lg_entry_eq]
  generalize (lg_sl ([.ref (ad 2), .int (nI b)]) ++ List.replicate (4 - (lg_sl ([.ref (ad 2), .int (nI b)])).length) Slot.unset).toArray = ls at hl ⊢
  have hl : lv_has ls 4 [(0, .ref (ad 2)), (1, .int (nI b))] := hl
  refine lv_iconst (v := nI 0) hx hb d_C_freePagesOf_0 (by decide) ?_
  refine lv_istore_n hx hb d_C_freePagesOf_1 rfl hl (by decide) rfl (fun ls hl => ?_)
  have hl : lv_has ls 4 [(2, .int (nI 0)), (0, .ref (ad 2)), (1, .int (nI b))] := hl
  refine lv_iload_n hx hb d_C_freePagesOf_2 rfl (lv_at hl 2 rfl) ?_
  refine lv_iconst (v := nI 4) hx hb d_C_freePagesOf_3 (by decide) ?_
  refine lv_imul hx hb d_C_freePagesOf_4 ?_
  refine tp_i (y := nI (b * 4)) (pk_mul _ _) ?_
  refine lv_istore_n hx hb d_C_freePagesOf_5 rfl hl (by decide) rfl (fun ls hl => ?_)
  have hl : lv_has ls 4 [(3, .int (nI (b * 4))), (2, .int (nI 0)), (0, .ref (ad 2)), (1, .int (nI b))] := hl
  have lp6 : ∀ (n : Nat) (k : Nat) (ls : Array Slot), (4 - k) < n → (k ≤ 4) → lv_has ls 4 [(0, .ref (ad 2)), (1, .int (nI b)), (2, .int (nI k)), (3, .int (nI (b * 4 + k)))] → W P l e (headSpec w_C_freePagesOf ({ frames := 1, cells := 0, slots := 0, locals := 23 })).room s m (([.ref (ad 2), .int (nI b)] : List Value).toArray) below meth c0 s.heap [] 0 0 (MQ below (vp_Si (fun r => r = nI 4)) (([.ref (ad 2), .int (nI b)] : List Value).toArray) s 0 0 (fun _ => False)) (F0 m 6 ls []) := by
    intro n
    induction n with
    | zero => intro k ls hm; intros; omega
    | succ n ih6 =>
      intro k ls hm hk hl
      refine lv_iload_n hx hb d_C_freePagesOf_6 rfl (lv_at hl 3 rfl) ?_
      refine lv_iload_n hx hb d_C_freePagesOf_7 rfl (lv_at hl 1 rfl) ?_
      refine lv_iconst (v := nI 1) hx hb d_C_freePagesOf_8 (by decide) ?_
      refine lv_iadd hx hb d_C_freePagesOf_9 ?_
      refine tp_i (y := nI (b + 1)) (nI_add _ _) ?_
      refine lv_iconst (v := nI 4) hx hb d_C_freePagesOf_10 (by decide) ?_
      refine lv_imul hx hb d_C_freePagesOf_11 ?_
      refine tp_i (y := nI ((b + 1) * 4)) (pk_mul _ _) ?_
      refine lv_icmp_ge (tgt := 32) hx hb d_C_freePagesOf_12 (by decide) (fun c12 => ?_) (fun c12 => ?_)
      ·
        have c12 := cd_ge_t (by omega) (by omega) c12
        refine lv_iload_n hx hb d_C_freePagesOf_32 rfl (lv_at hl 2 rfl) ?_
        exact W.iret (v := nI k) hx hb hr (fun t ht hW => ⟨nI k, rfl, by rw [show k = 4 by omega], ht⟩) (fun q hq => by cases hq) d_C_freePagesOf_33
      ·
        have c12 := cd_ge_f (by omega) (by omega) c12
        refine lv_aload_n hx hb d_C_freePagesOf_15 rfl (lv_at hl 0 rfl) ?_
        refine lv_iload_n hx hb d_C_freePagesOf_16 rfl (lv_at hl 3 rfl) ?_
        refine vp_callSi (va_runV (C := R_C) (As := [.int (nI (b * 4 + k))]) (rest := []) ⟨hx, hb, hml, hown, hts⟩ (c_C_isFree l dC dI ad cd w wr fl pw sc lw rot vb rec tk live row cur ser dur wo bts us act rd rs (b * 4 + k) (by first | omega | rfl | assumption | decide)) (cwV 1 hts (g_V t_258 t_259 t_260 t_3 t_261) rfl rfl rfl (by decide +kernel) ⟨by decide, by decide⟩) (xR_v hP hK 2 rfl rfl) rfl rfl hl.1 rfl (lv_room (Nat.le_of_ble_eq_true rfl)) d_C_freePagesOf_17 ⟨Nat.le_refl _, Nat.le_refl _⟩).run (fun r17 q17 => ?_)
        obtain ⟨rfl, -⟩ : r17 = 1 ∧ fp w (b * 4 + k) := q17.resolve_right (fun z => z.2 (fun i hi => hw _ (by omega)))
        refine lv_if_eq (tgt := 26) hx hb d_C_freePagesOf_20 (by decide) (fun c20 => ?_) (fun c20 => ?_)
        ·
          exact absurd c20 (by decide)
        ·
          refine lv_iinc (k := 2) (v := nI (k + 1)) hx hb d_C_freePagesOf_23 hl rfl (nI_1 _) (by decide) rfl (fun ls hl => ?_)
          have hl : lv_has ls 4 [(2, .int (nI (k + 1))), (0, .ref (ad 2)), (1, .int (nI b)), (3, .int (nI (b * 4 + k)))] := hl
          refine lv_iinc (k := 3) (v := nI ((b * 4 + k) + 1)) hx hb d_C_freePagesOf_26 hl rfl (nI_1 _) (by decide) rfl (fun ls hl => ?_)
          have hl : lv_has ls 4 [(3, .int (nI ((b * 4 + k) + 1))), (2, .int (nI (k + 1))), (0, .ref (ad 2)), (1, .int (nI b))] := hl
          refine lv_goto (tgt := 6) hx hb d_C_freePagesOf_29 (by decide) ?_
          exact ih6 (k + 1) ls (by omega) (by omega) (lv_sub hl [2, 3, 1, 0] rfl)
  exact lp6 _ 0 ls (Nat.lt_succ_self _) (by omega) (lv_sub hl [2, 3, 1, 0] rfl)
set_option maxHeartbeats 4000000 in
set_option maxRecDepth 100000 in
theorem c_C_usableFreePages_f (l : Launch) (dC : Nat → ClassId) (dI : Nat → Nat → Nat) (ad cd : Nat → Nat) (w wr fl : Nat → Int32) (pw sc : Int32) (lw rot vb : Nat → Int32) (rec tk : Int32) (live row : Nat → Int32) (cur ser dur wo : Int32) (bts : Nat → Int32) (us : Int32) (act : Nat → Int32) (rd rs : Int32)  (hw : ∀ i, i < 512 → w i = -1) (hfl : ∀ i, i < 8 → fl i = 0) : Met l y_C_usableFreePages w_C_usableFreePages ({ frames := 2, cells := 0, slots := 0, locals := 46 }) (xR (dC, dI) vwCl (xt cd) (xw ad cd w wr fl pw sc lw rot vb rec tk live row cur ser dur wo bts us act rd rs) [.ref (ad 2)]) (vp_Si (fun r => r = nI 32)) 0 0 (fun _ => False) := by
  refine Met.ofW (cc := b_C_usableFreePages) (maxL := 3) (ret := (some (.int))) (by decide) rfl ?_
  intro P e s m args below meth c0 s₁ B hml hv
  obtain ⟨rfl, hP, hK⟩ := hv
  have hx := B.exec
  have hb := B.bytes
  have hr := B.returns
  have hts := atoms_spec (ws := w_C_usableFreePages) B.pre
  have hown : s.vm.findClass R_C = some m.cls := findClass_of_methodNamed B.named
  have hlocks := B.notSynchronized
  have hl := lv_entry ([.ref (ad 2)]) (n := 3) (Nat.le_of_ble_eq_true rfl)
  rw [lg_entry_eq]
  generalize (lg_sl ([.ref (ad 2)]) ++ List.replicate (3 - (lg_sl ([.ref (ad 2)])).length) Slot.unset).toArray = ls at hl ⊢
  have hl : lv_has ls 3 [(0, .ref (ad 2))] := hl
  refine lv_iconst (v := nI 0) hx hb d_C_usableFreePages_0 (by decide) ?_
  refine lv_istore_n hx hb d_C_usableFreePages_1 rfl hl (by decide) rfl (fun ls hl => ?_)
  have hl : lv_has ls 3 [(1, .int (nI 0)), (0, .ref (ad 2))] := hl
  refine lv_iconst (v := nI 0) hx hb d_C_usableFreePages_2 (by decide) ?_
  refine lv_istore_n hx hb d_C_usableFreePages_3 rfl hl (by decide) rfl (fun ls hl => ?_)
  have hl : lv_has ls 3 [(2, .int (nI 0)), (1, .int (nI 0)), (0, .ref (ad 2))] := hl
  have lp4 : ∀ (n : Nat) (k : Nat) (ls : Array Slot), (8 - k) < n → (k ≤ 8) → lv_has ls 3 [(0, .ref (ad 2)), (1, .int (nI (4 * k))), (2, .int (nI k))] → W P l e (headSpec w_C_usableFreePages ({ frames := 2, cells := 0, slots := 0, locals := 46 })).room s m (([.ref (ad 2)] : List Value).toArray) below meth c0 s.heap [] 0 0 (MQ below (vp_Si (fun r => r = nI 32)) (([.ref (ad 2)] : List Value).toArray) s 0 0 (fun _ => False)) (F0 m 4 ls []) := by
    intro n
    induction n with
    | zero => intro k ls hm; intros; omega
    | succ n ih4 =>
      intro k ls hm hk hl
      refine lv_iload_n hx hb d_C_usableFreePages_4 rfl (lv_at hl 2 rfl) ?_
      refine lv_bipush (v := nI 8) hx hb d_C_usableFreePages_5 (by decide) ?_
      refine lv_icmp_ge (tgt := 33) hx hb d_C_usableFreePages_7 (by decide) (fun c7 => ?_) (fun c7 => ?_)
      ·
        have c7 := cd_ge_t (by omega) (by omega) c7
        refine lv_iload_n hx hb d_C_usableFreePages_33 rfl (lv_at hl 1 rfl) ?_
        exact W.iret (v := nI (4 * k)) hx hb hr (fun t ht hW => ⟨nI (4 * k), rfl, by rw [show k = 8 by omega], ht⟩) (fun q hq => by cases hq) d_C_usableFreePages_34
      ·
        have c7 := cd_ge_f (by omega) (by omega) c7
        refine lv_aload_n hx hb d_C_usableFreePages_10 rfl (lv_at hl 0 rfl) ?_
        refine va_get (D := (dC, dI)) (ci := 0) (v := .ref (ad 10)) (C := R_C) (T := F_C) (N := 5) hx hb hts (fun w h => List.mem_cons_of_mem _ (in_C w h)) hown hK hP 2 rfl rfl 2 (by decide) (hts (.fieldLink R_C 18 R_C "failed" "[Z") (List.mem_cons_of_mem _ t_36)) (fun _ h9 => h9) rfl d_C_usableFreePages_11 ?_
        refine lv_iload_n hx hb d_C_usableFreePages_14 rfl (lv_at hl 2 rfl) ?_
        refine va_zald hx hb hK hP 10 5 rfl rfl (vp_in_nI (by omega) (by decide)) d_C_usableFreePages_15 ?_
        refine tp_i (y := fl k) (by rw [nI_clamp (by omega)]) ?_
        refine lv_if_ne (tgt := 27) hx hb d_C_usableFreePages_16 (by decide) (fun c16 => ?_) (fun c16 => ?_)
        ·
          exact absurd (hfl k (by omega)) c16
        ·
          refine lv_iload_n hx hb d_C_usableFreePages_19 rfl (lv_at hl 1 rfl) ?_
          refine lv_aload_n hx hb d_C_usableFreePages_20 rfl (lv_at hl 0 rfl) ?_
          refine lv_iload_n hx hb d_C_usableFreePages_21 rfl (lv_at hl 2 rfl) ?_
          refine vp_callSi (va_runV (C := R_C) (As := [.int (nI k)]) (rest := [.int (nI (4 * k))]) ⟨hx, hb, hml, hown, hts⟩ (c_C_freePagesOf_f l dC dI ad cd w wr fl pw sc lw rot vb rec tk live row cur ser dur wo bts us act rd rs k (by omega) (hw)) (cwV 1 hts (g_V t_254 t_255 t_256 t_3 t_257) rfl rfl rfl (by decide +kernel) ⟨by decide, by decide⟩) (xR_v hP hK 2 rfl rfl) rfl rfl hl.1 rfl (lv_room (Nat.le_of_ble_eq_true rfl)) d_C_usableFreePages_22 ⟨Nat.le_refl _, Nat.le_refl _⟩).run (fun r22 q22 => ?_)
          subst q22
          refine lv_iadd hx hb d_C_usableFreePages_25 ?_
          refine tp_i (y := nI ((4 * k) + 4)) (nI_add _ _) ?_
          refine lv_istore_n hx hb d_C_usableFreePages_26 rfl hl (by decide) rfl (fun ls hl => ?_)
          have hl : lv_has ls 3 [(1, .int (nI ((4 * k) + 4))), (0, .ref (ad 2)), (2, .int (nI k))] := hl
          refine lv_iinc (k := 2) (v := nI (k + 1)) hx hb d_C_usableFreePages_27 hl rfl (nI_1 _) (by decide) rfl (fun ls hl => ?_)
          have hl : lv_has ls 3 [(2, .int (nI (k + 1))), (1, .int (nI ((4 * k) + 4))), (0, .ref (ad 2))] := hl
          refine lv_goto (tgt := 4) hx hb d_C_usableFreePages_30 (by decide) ?_
          exact ih4 (k + 1) ls (by omega) (by omega) (lv_sub hl [2, 1, 0] rfl)
  exact lp4 _ 0 ls (Nat.lt_succ_self _) (by omega) (lv_sub hl [2, 1, 0] rfl)
set_option maxHeartbeats 4000000 in
set_option maxRecDepth 100000 in
theorem c_C_turnOff (l : Launch) (dC : Nat → ClassId) (dI : Nat → Nat → Nat) (ad cd : Nat → Nat) (sz : Nat) (w wr fl : Nat → Int32) (pw sc : Int32) (lw rot vb : Nat → Int32) (rec tk : Int32) (live row : Nat → Int32) (cur ser dur wo : Int32) (bts : Nat → Int32) (us : Int32) (act : Nat → Int32) (rd rs : Int32)  : Met l y_C_turnOff w_C_turnOff ({ frames := 0, cells := 0, slots := 0, locals := 0 }) (xP (dC, dI) vwCl (xt cd) (xw ad cd w wr fl pw sc lw rot vb rec tk live row cur ser dur wo bts us act rd rs) sz [.ref (ad 2)]) (va_Qv (fun (u : Unit) => True) (fun (u : Unit) (t : State) => xB (dC, dI) vwCl (xt cd) (xA 15 ad sz) (xw ad cd w wr fl (nI 0) (-1) lw rot vb rec tk live row cur ser dur wo bts us act rd rs) t) (xA 15 ad sz)) 0 0 (xA 15 ad sz) := by
  refine Met.ofW (cc := b_C_turnOff) (maxL := 1) (ret := none) (by decide) rfl ?_
  intro P e s m args below meth c0 s₁ B hml hv
  obtain ⟨rfl, hsz, hP, hK, hD0⟩ := hv
  have hx := B.exec
  have hb := B.bytes
  have hr := B.returns
  have hts := atoms_spec (ws := w_C_turnOff) B.pre
  have hown : s.vm.findClass R_C = some m.cls := findClass_of_methodNamed B.named
  have hlocks := B.notSynchronized
  subst hsz
  have hD := xw_D (sz := s.heap.size) hD0
  have hS : va_S (xA 15 ad s.heap.size) s.heap s.heap [] := va_S.rf
  have hl := lv_entry ([.ref (ad 2)]) (n := 1) (Nat.le_of_ble_eq_true rfl)
  rw [lg_entry_eq]
  generalize (lg_sl ([.ref (ad 2)]) ++ List.replicate (1 - (lg_sl ([.ref (ad 2)])).length) Slot.unset).toArray = ls at hl ⊢
  have hl : lv_has ls 1 [(0, .ref (ad 2))] := hl
  refine lv_aload_n hx hb d_C_turnOff_0 rfl (lv_at hl 0 rfl) ?_
  refine lv_iconst (v := nI 0) hx hb d_C_turnOff_1 (by decide) ?_
  refine va_put (D := (dC, dI)) (ci := 0) (v := .int (nI 0)) (ty := .boolean) (C := R_C) (T := F_C) (N := 5) hx hb hts (fun w h => List.mem_cons_of_mem _ (in_C w h)) t_C ok_C nm_C hown hK hP hD hS 2 rfl rfl 3 (by decide) (hts (.fieldLink R_C 22 R_C "powered" "Z") (List.mem_cons_of_mem _ t_37)) (fun _ h9 => h9) rfl (by decide +kernel) (by first | rfl | decide | assumption) rfl (Nat.le_of_ble_eq_true rfl) d_C_turnOff_2 (fun H locs hP hD hS => ?_)
  have hP : va_P (dC, dI) vwCl (xw ad cd w wr fl (nI 0) sc lw rot vb rec tk live row cur ser dur wo bts us act rd rs) H := hP
  have hD : va_D (xA 15 ad s.heap.size) (xw ad cd w wr fl (nI 0) sc lw rot vb rec tk live row cur ser dur wo bts us act rd rs) := hD
  refine lv_aload_n hx hb d_C_turnOff_5 rfl (lv_at hl 0 rfl) ?_
  refine lv_iconst (v := (-1)) hx hb d_C_turnOff_6 (by decide) ?_
  refine va_put (D := (dC, dI)) (ci := 0) (v := .int (-1)) (ty := .int) (C := R_C) (T := F_C) (N := 5) hx hb hts (fun w h => List.mem_cons_of_mem _ (in_C w h)) t_C ok_C nm_C hown hK hP hD hS 2 rfl rfl 4 (by decide) (hts (.fieldLink R_C 26 R_C "stepsToCut" "I") (List.mem_cons_of_mem _ t_38)) (fun _ h9 => h9) rfl (by decide +kernel) rfl rfl (Nat.le_of_ble_eq_true rfl) d_C_turnOff_7 (fun H locs hP hD hS => ?_)
  have hP : va_P (dC, dI) vwCl (xw ad cd w wr fl (nI 0) (-1) lw rot vb rec tk live row cur ser dur wo bts us act rd rs) H := hP
  have hD : va_D (xA 15 ad s.heap.size) (xw ad cd w wr fl (nI 0) (-1) lw rot vb rec tk live row cur ser dur wo bts us act rd rs) := hD
  exact W.vret hx hb hr (fun t ht hW => ⟨⟨(), rfl, by first | rfl | trivial | omega, ⟨by rw [ht]; exact hP, va_K.moved hW.alike hK, hD⟩⟩, hS.F ht⟩) hS.2.2 d_C_turnOff_10
set_option maxHeartbeats 4000000 in
set_option maxRecDepth 100000 in
theorem c_C_turnOn (l : Launch) (dC : Nat → ClassId) (dI : Nat → Nat → Nat) (ad cd : Nat → Nat) (sz : Nat) (w wr fl : Nat → Int32) (pw sc : Int32) (lw rot vb : Nat → Int32) (rec tk : Int32) (live row : Nat → Int32) (cur ser dur wo : Int32) (bts : Nat → Int32) (us : Int32) (act : Nat → Int32) (rd rs : Int32)  : Met l y_C_turnOn w_C_turnOn ({ frames := 0, cells := 0, slots := 0, locals := 0 }) (xP (dC, dI) vwCl (xt cd) (xw ad cd w wr fl pw sc lw rot vb rec tk live row cur ser dur wo bts us act rd rs) sz [.ref (ad 2)]) (va_Qv (fun (u : Unit) => True) (fun (u : Unit) (t : State) => xB (dC, dI) vwCl (xt cd) (xA 15 ad sz) (xw ad cd w wr fl (nI 1) sc lw rot vb rec tk live row cur ser dur wo bts us act rd rs) t) (xA 15 ad sz)) 0 0 (xA 15 ad sz) := by
  refine Met.ofW (cc := b_C_turnOn) (maxL := 1) (ret := none) (by decide) rfl ?_
  intro P e s m args below meth c0 s₁ B hml hv
  obtain ⟨rfl, hsz, hP, hK, hD0⟩ := hv
  have hx := B.exec
  have hb := B.bytes
  have hr := B.returns
  have hts := atoms_spec (ws := w_C_turnOn) B.pre
  have hown : s.vm.findClass R_C = some m.cls := findClass_of_methodNamed B.named
  have hlocks := B.notSynchronized
  subst hsz
  have hD := xw_D (sz := s.heap.size) hD0
  have hS : va_S (xA 15 ad s.heap.size) s.heap s.heap [] := va_S.rf
  have hl := lv_entry ([.ref (ad 2)]) (n := 1) (Nat.le_of_ble_eq_true rfl)
  rw [lg_entry_eq]
  generalize (lg_sl ([.ref (ad 2)]) ++ List.replicate (1 - (lg_sl ([.ref (ad 2)])).length) Slot.unset).toArray = ls at hl ⊢
  have hl : lv_has ls 1 [(0, .ref (ad 2))] := hl
  refine lv_aload_n hx hb d_C_turnOn_0 rfl (lv_at hl 0 rfl) ?_
  refine lv_iconst (v := nI 1) hx hb d_C_turnOn_1 (by decide) ?_
  refine va_put (D := (dC, dI)) (ci := 0) (v := .int (nI 1)) (ty := .boolean) (C := R_C) (T := F_C) (N := 5) hx hb hts (fun w h => List.mem_cons_of_mem _ (in_C w h)) t_C ok_C nm_C hown hK hP hD hS 2 rfl rfl 3 (by decide) (hts (.fieldLink R_C 22 R_C "powered" "Z") (List.mem_cons_of_mem _ t_37)) (fun _ h9 => h9) rfl (by decide +kernel) (by first | rfl | decide | assumption) rfl (Nat.le_of_ble_eq_true rfl) d_C_turnOn_2 (fun H locs hP hD hS => ?_)
  have hP : va_P (dC, dI) vwCl (xw ad cd w wr fl (nI 1) sc lw rot vb rec tk live row cur ser dur wo bts us act rd rs) H := hP
  have hD : va_D (xA 15 ad s.heap.size) (xw ad cd w wr fl (nI 1) sc lw rot vb rec tk live row cur ser dur wo bts us act rd rs) := hD
  exact W.vret hx hb hr (fun t ht hW => ⟨⟨(), rfl, by first | rfl | trivial | omega, ⟨by rw [ht]; exact hP, va_K.moved hW.alike hK, hD⟩⟩, hS.F ht⟩) hS.2.2 d_C_turnOn_5
set_option maxHeartbeats 4000000 in
set_option maxRecDepth 100000 in
theorem c_C_tellCut (l : Launch) (dC : Nat → ClassId) (dI : Nat → Nat → Nat) (ad cd : Nat → Nat) (sz : Nat) (w wr fl : Nat → Int32) (pw sc : Int32) (lw rot vb : Nat → Int32) (rec tk : Int32) (live row : Nat → Int32) (cur ser dur wo : Int32) (bts : Nat → Int32) (us : Int32) (act : Nat → Int32) (rd rs : Int32) (n : Int32) : Met l y_C_tellCut w_C_tellCut ({ frames := 0, cells := 0, slots := 0, locals := 0 }) (xP (dC, dI) vwCl (xt cd) (xw ad cd w wr fl pw sc lw rot vb rec tk live row cur ser dur wo bts us act rd rs) sz [.ref (ad 2), .int n]) (va_Qv (fun (u : Unit) => True) (fun (u : Unit) (t : State) => xB (dC, dI) vwCl (xt cd) (xA 15 ad sz) (xw ad cd w wr fl pw n lw rot vb rec tk live row cur ser dur wo bts us act rd rs) t) (xA 15 ad sz)) 0 0 (xA 15 ad sz) := by
  refine Met.ofW (cc := b_C_tellCut) (maxL := 2) (ret := none) (by decide) rfl ?_
  intro P e s m args below meth c0 s₁ B hml hv
  obtain ⟨rfl, hsz, hP, hK, hD0⟩ := hv
  have hx := B.exec
  have hb := B.bytes
  have hr := B.returns
  have hts := atoms_spec (ws := w_C_tellCut) B.pre
  have hown : s.vm.findClass R_C = some m.cls := findClass_of_methodNamed B.named
  have hlocks := B.notSynchronized
  subst hsz
  have hD := xw_D (sz := s.heap.size) hD0
  have hS : va_S (xA 15 ad s.heap.size) s.heap s.heap [] := va_S.rf
  have hl := lv_entry ([.ref (ad 2), .int n]) (n := 2) (Nat.le_of_ble_eq_true rfl)
  rw [lg_entry_eq]
  generalize (lg_sl ([.ref (ad 2), .int n]) ++ List.replicate (2 - (lg_sl ([.ref (ad 2), .int n])).length) Slot.unset).toArray = ls at hl ⊢
  have hl : lv_has ls 2 [(0, .ref (ad 2)), (1, .int n)] := hl
  refine lv_aload_n hx hb d_C_tellCut_0 rfl (lv_at hl 0 rfl) ?_
  refine lv_iload_n hx hb d_C_tellCut_1 rfl (lv_at hl 1 rfl) ?_
  refine va_put (D := (dC, dI)) (ci := 0) (v := .int n) (ty := .int) (C := R_C) (T := F_C) (N := 5) hx hb hts (fun w h => List.mem_cons_of_mem _ (in_C w h)) t_C ok_C nm_C hown hK hP hD hS 2 rfl rfl 4 (by decide) (hts (.fieldLink R_C 26 R_C "stepsToCut" "I") (List.mem_cons_of_mem _ t_38)) (fun _ h9 => h9) rfl (by decide +kernel) rfl rfl (Nat.le_of_ble_eq_true rfl) d_C_tellCut_2 (fun H locs hP hD hS => ?_)
  have hP : va_P (dC, dI) vwCl (xw ad cd w wr fl pw n lw rot vb rec tk live row cur ser dur wo bts us act rd rs) H := hP
  have hD : va_D (xA 15 ad s.heap.size) (xw ad cd w wr fl pw n lw rot vb rec tk live row cur ser dur wo bts us act rd rs) := hD
  exact W.vret hx hb hr (fun t ht hW => ⟨⟨(), rfl, by first | rfl | trivial | omega, ⟨by rw [ht]; exact hP, va_K.moved hW.alike hK, hD⟩⟩, hS.F ht⟩) hS.2.2 d_C_tellCut_5
set_option maxHeartbeats 4000000 in
set_option maxRecDepth 100000 in
theorem c_C_flip (l : Launch) (dC : Nat → ClassId) (dI : Nat → Nat → Nat) (ad cd : Nat → Nat) (sz : Nat) (w wr fl : Nat → Int32) (pw sc : Int32) (lw rot vb : Nat → Int32) (rec tk : Int32) (live row : Nat → Int32) (cur ser dur wo : Int32) (bts : Nat → Int32) (us : Int32) (act : Nat → Int32) (rd rs : Int32) (pa k : Nat) (mask : Int32) (hp : pa < 32) (hk : k < 16) : Met l y_C_flip w_C_flip ({ frames := 0, cells := 0, slots := 0, locals := 0 }) (xP (dC, dI) vwCl (xt cd) (xw ad cd w wr fl pw sc lw rot vb rec tk live row cur ser dur wo bts us act rd rs) sz [.ref (ad 2), .int (nI pa), .int (nI k), .int mask]) (va_Qv (fun (u : Unit) => True) (fun (u : Unit) (t : State) => xB (dC, dI) vwCl (xt cd) (xA 15 ad sz) (xw ad cd (upd w (pa * 16 + k) (w (pa * 16 + k) ^^^ mask)) wr fl pw sc lw rot vb rec tk live row cur ser dur wo bts us act rd rs) t) (xA 15 ad sz)) 0 0 (xA 15 ad sz) := by
  refine Met.ofW (cc := b_C_flip) (maxL := 4) (ret := none) (by decide) rfl ?_
  intro P e s m args below meth c0 s₁ B hml hv
  obtain ⟨rfl, hsz, hP, hK, hD0⟩ := hv
  have hx := B.exec
  have hb := B.bytes
  have hr := B.returns
  have hts := atoms_spec (ws := w_C_flip) B.pre
  have hown : s.vm.findClass R_C = some m.cls := findClass_of_methodNamed B.named
  have hlocks := B.notSynchronized
  subst hsz
  have hD := xw_D (sz := s.heap.size) hD0
  have hS : va_S (xA 15 ad s.heap.size) s.heap s.heap [] := va_S.rf
  have hl := lv_entry ([.ref (ad 2), .int (nI pa), .int (nI k), .int mask]) (n := 4) (Nat.le_of_ble_eq_true rfl)
  rw [lg_entry_eq]
  generalize (lg_sl ([.ref (ad 2), .int (nI pa), .int (nI k), .int mask]) ++ List.replicate (4 - (lg_sl ([.ref (ad 2), .int (nI pa), .int (nI k), .int mask])).length) Slot.unset).toArray = ls at hl ⊢
  have hl : lv_has ls 4 [(0, .ref (ad 2)), (1, .int (nI pa)), (2, .int (nI k)), (3, .int mask)] := hl
  refine lv_aload_n hx hb d_C_flip_0 rfl (lv_at hl 0 rfl) ?_
  refine va_get (D := (dC, dI)) (ci := 0) (v := .ref (ad 8)) (C := R_C) (T := F_C) (N := 5) hx hb hts (fun w h => List.mem_cons_of_mem _ (in_C w h)) hown hK hP 2 rfl rfl 0 (by decide) (hts (.fieldLink R_C 9 R_C "words" "[I") (List.mem_cons_of_mem _ t_34)) (fun _ h9 => h9) rfl d_C_flip_1 ?_
  refine lv_iload_n hx hb d_C_flip_4 rfl (lv_at hl 1 rfl) ?_
  refine lv_bipush (v := nI 16) hx hb d_C_flip_5 (by decide) ?_
  refine lv_imul hx hb d_C_flip_7 ?_
  refine tp_i (y := nI (pa * 16)) (pk_mul _ _) ?_
  refine lv_iload_n hx hb d_C_flip_8 rfl (lv_at hl 2 rfl) ?_
  refine lv_iadd hx hb d_C_flip_9 ?_
  refine tp_i (y := nI ((pa * 16) + k)) (nI_add _ _) ?_
  refine lv_dup2_11 hx hb d_C_flip_10 rfl rfl ?_
  refine va_iald hx hb hK hP 8 3 rfl rfl (vp_in_nI (by omega) (by decide)) d_C_flip_11 ?_
  refine tp_i (y := w ((pa * 16) + k)) (by rw [nI_clamp (by omega)]) ?_
  refine lv_iload_n hx hb d_C_flip_12 rfl (lv_at hl 3 rfl) ?_
  refine lv_ixor hx hb d_C_flip_13 ?_
  refine va_iast hx hb hK hP hD hS 8 3 rfl rfl (vp_in_nI (by omega) (by decide)) d_C_flip_14 (fun H locs hP hD hS => ?_)
  rw [nI_clamp (by omega)] at hP hD
  have hP : va_P (dC, dI) vwCl (xw ad cd (upd w ((pa * 16) + k) ((w ((pa * 16) + k)) ^^^ mask)) wr fl pw sc lw rot vb rec tk live row cur ser dur wo bts us act rd rs) H := hP
  have hD : va_D (xA 15 ad s.heap.size) (xw ad cd (upd w ((pa * 16) + k) ((w ((pa * 16) + k)) ^^^ mask)) wr fl pw sc lw rot vb rec tk live row cur ser dur wo bts us act rd rs) := hD
  exact W.vret hx hb hr (fun t ht hW => ⟨⟨(), rfl, by first | rfl | trivial | omega, ⟨by rw [ht]; exact hP, va_K.moved hW.alike hK, hD⟩⟩, hS.F ht⟩) hS.2.2 d_C_flip_15
set_option maxHeartbeats 4000000 in
set_option maxRecDepth 100000 in
theorem c_C_markFailed (l : Launch) (dC : Nat → ClassId) (dI : Nat → Nat → Nat) (ad cd : Nat → Nat) (sz : Nat) (w wr fl : Nat → Int32) (pw sc : Int32) (lw rot vb : Nat → Int32) (rec tk : Int32) (live row : Nat → Int32) (cur ser dur wo : Int32) (bts : Nat → Int32) (us : Int32) (act : Nat → Int32) (rd rs : Int32) (b : Nat) (hp : b < 8) : Met l y_C_markFailed w_C_markFailed ({ frames := 0, cells := 0, slots := 0, locals := 0 }) (xP (dC, dI) vwCl (xt cd) (xw ad cd w wr fl pw sc lw rot vb rec tk live row cur ser dur wo bts us act rd rs) sz [.ref (ad 2), .int (nI b)]) (va_Qv (fun (u : Unit) => True) (fun (u : Unit) (t : State) => xB (dC, dI) vwCl (xt cd) (xA 15 ad sz) (xw ad cd w wr (upd fl b (vp_nar .boolean (nI 1))) pw sc lw rot vb rec tk live row cur ser dur wo bts us act rd rs) t) (xA 15 ad sz)) 0 0 (xA 15 ad sz) := by
  refine Met.ofW (cc := b_C_markFailed) (maxL := 2) (ret := none) (by decide) rfl ?_
  intro P e s m args below meth c0 s₁ B hml hv
  obtain ⟨rfl, hsz, hP, hK, hD0⟩ := hv
  have hx := B.exec
  have hb := B.bytes
  have hr := B.returns
  have hts := atoms_spec (ws := w_C_markFailed) B.pre
  have hown : s.vm.findClass R_C = some m.cls := findClass_of_methodNamed B.named
  have hlocks := B.notSynchronized
  subst hsz
  have hD := xw_D (sz := s.heap.size) hD0
  have hS : va_S (xA 15 ad s.heap.size) s.heap s.heap [] := va_S.rf
  have hl := lv_entry ([.ref (ad 2), .int (nI b)]) (n := 2) (Nat.le_of_ble_eq_true rfl)
  rw [lg_entry_eq]
  generalize (lg_sl ([.ref (ad 2), .int (nI b)]) ++ List.replicate (2 - (lg_sl ([.ref (ad 2), .int (nI b)])).length) Slot.unset).toArray = ls at hl ⊢
  have hl : lv_has ls 2 [(0, .ref (ad 2)), (1, .int (nI b))] := hl
  refine lv_aload_n hx hb d_C_markFailed_0 rfl (lv_at hl 0 rfl) ?_
  refine va_get (D := (dC, dI)) (ci := 0) (v := .ref (ad 10)) (C := R_C) (T := F_C) (N := 5) hx hb hts (fun w h => List.mem_cons_of_mem _ (in_C w h)) hown hK hP 2 rfl rfl 2 (by decide) (hts (.fieldLink R_C 18 R_C "failed" "[Z") (List.mem_cons_of_mem _ t_36)) (fun _ h9 => h9) rfl d_C_markFailed_1 ?_
  refine lv_iload_n hx hb d_C_markFailed_4 rfl (lv_at hl 1 rfl) ?_
  refine lv_iconst (v := nI 1) hx hb d_C_markFailed_5 (by decide) ?_
  refine va_zast hx hb hK hP hD hS 10 5 rfl rfl (vp_in_nI (by omega) (by decide)) d_C_markFailed_6 (fun H locs hP hD hS => ?_)
  rw [nI_clamp (by omega)] at hP hD
  have hP : va_P (dC, dI) vwCl (xw ad cd w wr (upd fl b (vp_nar .boolean (nI 1))) pw sc lw rot vb rec tk live row cur ser dur wo bts us act rd rs) H := hP
  have hD : va_D (xA 15 ad s.heap.size) (xw ad cd w wr (upd fl b (vp_nar .boolean (nI 1))) pw sc lw rot vb rec tk live row cur ser dur wo bts us act rd rs) := hD
  exact W.vret hx hb hr (fun t ht hW => ⟨⟨(), rfl, by first | rfl | trivial | omega, ⟨by rw [ht]; exact hP, va_K.moved hW.alike hK, hD⟩⟩, hS.F ht⟩) hS.2.2 d_C_markFailed_7
end
section
set_option maxHeartbeats 4000000 in
set_option maxRecDepth 100000 in
theorem c_G_recordCount (l : Launch) (dC : Nat → ClassId) (dI : Nat → Nat → Nat) (ad cd : Nat → Nat) (w wr fl : Nat → Int32) (pw sc : Int32) (lw rot vb : Nat → Int32) (rec tk : Int32) (live row : Nat → Int32) (cur ser dur wo : Int32) (bts : Nat → Int32) (us : Int32) (act : Nat → Int32) (rd rs : Int32)  : Met l y_G_recordCount w_G_recordCount ({ frames := 0, cells := 0, slots := 0, locals := 0 }) (xR (dC, dI) vwCl (xt cd) (xw ad cd w wr fl pw sc lw rot vb rec tk live row cur ser dur wo bts us act rd rs) [.ref (ad 3)]) (vp_Si (fun r => r = rec)) 0 0 (fun _ => False) := by
  refine Met.ofW (cc := b_G_recordCount) (maxL := 1) (ret := (some (.int))) (by decide) rfl ?_
  intro P e s m args below meth c0 s₁ B hml hv
  obtain ⟨rfl, hP, hK⟩ := hv
  have hx := B.exec
  have hb := B.bytes
  have hr := B.returns
  have hts := atoms_spec (ws := w_G_recordCount) B.pre
  have hown : s.vm.findClass R_G = some m.cls := findClass_of_methodNamed B.named
  have hlocks := B.notSynchronized
  have hl := lv_entry ([.ref (ad 3)]) (n := 1) (Nat.le_of_ble_eq_true rfl)
  rw [lg_entry_eq]
  generalize (lg_sl ([.ref (ad 3)]) ++ List.replicate (1 - (lg_sl ([.ref (ad 3)])).length) Slot.unset).toArray = ls at hl ⊢
  have hl : lv_has ls 1 [(0, .ref (ad 3))] := hl
  refine lv_aload_n hx hb d_G_recordCount_0 rfl (lv_at hl 0 rfl) ?_
  refine va_get (D := (dC, dI)) (ci := 2) (v := .int rec) (C := R_G) (T := F_G) (N := 5) hx hb hts (fun w h => List.mem_cons_of_mem _ (in_G w h)) hown hK hP 3 rfl rfl 3 (by decide) (hts (.fieldLink R_G 21 R_G "records" "I") (List.mem_cons_of_mem _ t_87)) (fun _ h9 => h9) rfl d_G_recordCount_1 ?_
  exact W.iret (v := rec) hx hb hr (fun t ht hW => ⟨rec, rfl, by first | rfl | trivial | omega, ht⟩) (fun q hq => by cases hq) d_G_recordCount_4
set_option maxHeartbeats 4000000 in
set_option maxRecDepth 100000 in
theorem c_G_ticketCount (l : Launch) (dC : Nat → ClassId) (dI : Nat → Nat → Nat) (ad cd : Nat → Nat) (w wr fl : Nat → Int32) (pw sc : Int32) (lw rot vb : Nat → Int32) (rec tk : Int32) (live row : Nat → Int32) (cur ser dur wo : Int32) (bts : Nat → Int32) (us : Int32) (act : Nat → Int32) (rd rs : Int32)  : Met l y_G_ticketCount w_G_ticketCount ({ frames := 0, cells := 0, slots := 0, locals := 0 }) (xR (dC, dI) vwCl (xt cd) (xw ad cd w wr fl pw sc lw rot vb rec tk live row cur ser dur wo bts us act rd rs) [.ref (ad 3)]) (vp_Si (fun r => r = tk)) 0 0 (fun _ => False) := by
  refine Met.ofW (cc := b_G_ticketCount) (maxL := 1) (ret := (some (.int))) (by decide) rfl ?_
  intro P e s m args below meth c0 s₁ B hml hv
  obtain ⟨rfl, hP, hK⟩ := hv
  have hx := B.exec
  have hb := B.bytes
  have hr := B.returns
  have hts := atoms_spec (ws := w_G_ticketCount) B.pre
  have hown : s.vm.findClass R_G = some m.cls := findClass_of_methodNamed B.named
  have hlocks := B.notSynchronized
  have hl := lv_entry ([.ref (ad 3)]) (n := 1) (Nat.le_of_ble_eq_true rfl)
  rw [lg_entry_eq]
  generalize (lg_sl ([.ref (ad 3)]) ++ List.replicate (1 - (lg_sl ([.ref (ad 3)])).length) Slot.unset).toArray = ls at hl ⊢
  have hl : lv_has ls 1 [(0, .ref (ad 3))] := hl
  refine lv_aload_n hx hb d_G_ticketCount_0 rfl (lv_at hl 0 rfl) ?_
  refine va_get (D := (dC, dI)) (ci := 2) (v := .int tk) (C := R_G) (T := F_G) (N := 5) hx hb hts (fun w h => List.mem_cons_of_mem _ (in_G w h)) hown hK hP 3 rfl rfl 4 (by decide) (hts (.fieldLink R_G 25 R_G "tickets" "I") (List.mem_cons_of_mem _ t_88)) (fun _ h9 => h9) rfl d_G_ticketCount_1 ?_
  exact W.iret (v := tk) hx hb hr (fun t ht hW => ⟨tk, rfl, by first | rfl | trivial | omega, ht⟩) (fun q hq => by cases hq) d_G_ticketCount_4
set_option maxHeartbeats 4000000 in
set_option maxRecDepth 100000 in
theorem c_G_hasTicket (l : Launch) (dC : Nat → ClassId) (dI : Nat → Nat → Nat) (ad cd : Nat → Nat) (w wr fl : Nat → Int32) (pw sc : Int32) (lw rot vb : Nat → Int32) (rec tk : Int32) (live row : Nat → Int32) (cur ser dur wo : Int32) (bts : Nat → Int32) (us : Int32) (act : Nat → Int32) (rd rs : Int32) (n : Int32) : Met l y_G_hasTicket w_G_hasTicket ({ frames := 0, cells := 0, slots := 0, locals := 0 }) (xR (dC, dI) vwCl (xt cd) (xw ad cd w wr fl pw sc lw rot vb rec tk live row cur ser dur wo bts us act rd rs) [.ref (ad 3), .int n]) (vp_Si (fun r => (r = 1 ∧ (1 ≤ n ∧ n ≤ tk)) ∨ (r = 0 ∧ ¬ (1 ≤ n ∧ n ≤ tk)))) 0 0 (fun _ => False) := by
  refine Met.ofW (cc := b_G_hasTicket) (maxL := 2) (ret := (some (.boolean))) (by decide) rfl ?_
  intro P e s m args below meth c0 s₁ B hml hv
  obtain ⟨rfl, hP, hK⟩ := hv
  have hx := B.exec
  have hb := B.bytes
  have hr := B.returns
  have hts := atoms_spec (ws := w_G_hasTicket) B.pre
  have hown : s.vm.findClass R_G = some m.cls := findClass_of_methodNamed B.named
  have hlocks := B.notSynchronized
  have hl := lv_entry ([.ref (ad 3), .int n]) (n := 2) (Nat.le_of_ble_eq_true rfl)
  rw [lg_entry_eq]
  generalize (lg_sl ([.ref (ad 3), .int n]) ++ List.replicate (2 - (lg_sl ([.ref (ad 3), .int n])).length) Slot.unset).toArray = ls at hl ⊢
  have hl : lv_has ls 2 [(0, .ref (ad 3)), (1, .int n)] := hl
  refine lv_iload_n hx hb d_G_hasTicket_0 rfl (lv_at hl 1 rfl) ?_
  refine lv_iconst (v := 1) hx hb d_G_hasTicket_1 (by decide) ?_
  refine lv_icmp_lt (tgt := 17) hx hb d_G_hasTicket_2 (by decide) (fun c2 => ?_) (fun c2 => ?_)
  ·
    refine lv_iconst (v := 0) hx hb d_G_hasTicket_17 (by decide) ?_
    exact W.zret (v := 0) hx hb hr (by first | rfl | decide | assumption) (fun t ht hW => ⟨0, rfl, Or.inr ⟨rfl, fun z => by first | exact absurd z.1 (Int32.not_le.mpr c2) | exact absurd z.2 (Int32.not_le.mpr c10)⟩, ht⟩) (fun q hq => by cases hq) d_G_hasTicket_18
  ·
    refine lv_iload_n hx hb d_G_hasTicket_5 rfl (lv_at hl 1 rfl) ?_
    refine lv_aload_n hx hb d_G_hasTicket_6 rfl (lv_at hl 0 rfl) ?_
    refine va_get (D := (dC, dI)) (ci := 2) (v := .int tk) (C := R_G) (T := F_G) (N := 5) hx hb hts (fun w h => List.mem_cons_of_mem _ (in_G w h)) hown hK hP 3 rfl rfl 4 (by decide) (hts (.fieldLink R_G 25 R_G "tickets" "I") (List.mem_cons_of_mem _ t_88)) (fun _ h9 => h9) rfl d_G_hasTicket_7 ?_
    refine lv_icmp_gt (tgt := 17) hx hb d_G_hasTicket_10 (by decide) (fun c10 => ?_) (fun c10 => ?_)
    ·
      refine lv_iconst (v := 0) hx hb d_G_hasTicket_17 (by decide) ?_
      exact W.zret (v := 0) hx hb hr (by first | rfl | decide | assumption) (fun t ht hW => ⟨0, rfl, Or.inr ⟨rfl, fun z => by first | exact absurd z.1 (Int32.not_le.mpr c2) | exact absurd z.2 (Int32.not_le.mpr c10)⟩, ht⟩) (fun q hq => by cases hq) d_G_hasTicket_18
    ·
      refine lv_iconst (v := 1) hx hb d_G_hasTicket_13 (by decide) ?_
      refine lv_goto (tgt := 18) hx hb d_G_hasTicket_14 (by decide) ?_
      exact W.zret (v := 1) hx hb hr (by first | rfl | decide | assumption) (fun t ht hW => ⟨1, rfl, Or.inl ⟨rfl, Int32.not_lt.mp c2, Int32.not_lt.mp c10⟩, ht⟩) (fun q hq => by cases hq) d_G_hasTicket_18
set_option maxHeartbeats 4000000 in
set_option maxRecDepth 100000 in
theorem c_G_empty (l : Launch) (dC : Nat → ClassId) (dI : Nat → Nat → Nat) (ad cd : Nat → Nat) (sz : Nat) (w wr fl : Nat → Int32) (pw sc : Int32) (lw rot vb : Nat → Int32) (rec tk : Int32) (live row : Nat → Int32) (cur ser dur wo : Int32) (bts : Nat → Int32) (us : Int32) (act : Nat → Int32) (rd rs : Int32)  : Met l y_G_empty w_G_empty ({ frames := 0, cells := 0, slots := 0, locals := 0 }) (xP (dC, dI) vwCl (xt cd) (xw ad cd w wr fl pw sc lw rot vb rec tk live row cur ser dur wo bts us act rd rs) sz [.ref (ad 3)]) (va_Qv (fun (u : Unit) => True) (fun (u : Unit) (t : State) => xB (dC, dI) vwCl (xt cd) (xA 15 ad sz) (xw ad cd w wr fl pw sc lw rot vb (nI 0) (nI 0) live row cur ser dur wo bts us act rd rs) t) (xA 15 ad sz)) 0 0 (xA 15 ad sz) := by
  refine Met.ofW (cc := b_G_empty) (maxL := 1) (ret := none) (by decide) rfl ?_
  intro P e s m args below meth c0 s₁ B hml hv
  obtain ⟨rfl, hsz, hP, hK, hD0⟩ := hv
  have hx := B.exec
  have hb := B.bytes
  have hr := B.returns
  have hts := atoms_spec (ws := w_G_empty) B.pre
  have hown : s.vm.findClass R_G = some m.cls := findClass_of_methodNamed B.named
  have hlocks := B.notSynchronized
  subst hsz
  have hD := xw_D (sz := s.heap.size) hD0
  have hS : va_S (xA 15 ad s.heap.size) s.heap s.heap [] := va_S.rf
  have hl := lv_entry ([.ref (ad 3)]) (n := 1) (Nat.le_of_ble_eq_true rfl)
  rw [lg_entry_eq]
  generalize (lg_sl ([.ref (ad 3)]) ++ List.replicate (1 - (lg_sl ([.ref (ad 3)])).length) Slot.unset).toArray = ls at hl ⊢
  have hl : lv_has ls 1 [(0, .ref (ad 3))] := hl
  refine lv_aload_n hx hb d_G_empty_0 rfl (lv_at hl 0 rfl) ?_
  refine lv_iconst (v := nI 0) hx hb d_G_empty_1 (by decide) ?_
  refine va_put (D := (dC, dI)) (ci := 2) (v := .int (nI 0)) (ty := .int) (C := R_G) (T := F_G) (N := 5) hx hb hts (fun w h => List.mem_cons_of_mem _ (in_G w h)) t_G ok_G nm_G hown hK hP hD hS 3 rfl rfl 3 (by decide) (hts (.fieldLink R_G 21 R_G "records" "I") (List.mem_cons_of_mem _ t_87)) (fun _ h9 => h9) rfl (by decide +kernel) rfl rfl (Nat.le_of_ble_eq_true rfl) d_G_empty_2 (fun H locs hP hD hS => ?_)
  have hP : va_P (dC, dI) vwCl (xw ad cd w wr fl pw sc lw rot vb (nI 0) tk live row cur ser dur wo bts us act rd rs) H := hP
  have hD : va_D (xA 15 ad s.heap.size) (xw ad cd w wr fl pw sc lw rot vb (nI 0) tk live row cur ser dur wo bts us act rd rs) := hD
  refine lv_aload_n hx hb d_G_empty_5 rfl (lv_at hl 0 rfl) ?_
  refine lv_iconst (v := nI 0) hx hb d_G_empty_6 (by decide) ?_
  refine va_put (D := (dC, dI)) (ci := 2) (v := .int (nI 0)) (ty := .int) (C := R_G) (T := F_G) (N := 5) hx hb hts (fun w h => List.mem_cons_of_mem _ (in_G w h)) t_G ok_G nm_G hown hK hP hD hS 3 rfl rfl 4 (by decide) (hts (.fieldLink R_G 25 R_G "tickets" "I") (List.mem_cons_of_mem _ t_88)) (fun _ h9 => h9) rfl (by decide +kernel) rfl rfl (Nat.le_of_ble_eq_true rfl) d_G_empty_7 (fun H locs hP hD hS => ?_)
  have hP : va_P (dC, dI) vwCl (xw ad cd w wr fl pw sc lw rot vb (nI 0) (nI 0) live row cur ser dur wo bts us act rd rs) H := hP
  have hD : va_D (xA 15 ad s.heap.size) (xw ad cd w wr fl pw sc lw rot vb (nI 0) (nI 0) live row cur ser dur wo bts us act rd rs) := hD
  exact W.vret hx hb hr (fun t ht hW => ⟨⟨(), rfl, by first | rfl | trivial | omega, ⟨by rw [ht]; exact hP, va_K.moved hW.alike hK, hD⟩⟩, hS.F ht⟩) hS.2.2 d_G_empty_10
end
section
set_option maxHeartbeats 4000000 in
set_option maxRecDepth 100000 in
theorem c_S_findNewestPages_f (l : Launch) (dC : Nat → ClassId) (dI : Nat → Nat → Nat) (ad cd : Nat → Nat) (sz : Nat) (w wr fl : Nat → Int32) (pw sc : Int32) (lw rot vb : Nat → Int32) (rec tk : Int32) (live row : Nat → Int32) (cur ser dur wo : Int32) (bts : Nat → Int32) (us : Int32) (act : Nat → Int32) (rd rs : Int32)  (hw : ∀ i, i < 512 → w i = -1) : Met l y_S_findNewestPages w_S_findNewestPages ({ frames := 2, cells := 0, slots := 0, locals := 44 }) (xP (dC, dI) vwCl (xt cd) (xw ad cd w wr fl pw sc lw rot vb rec tk live row cur ser dur wo bts us act rd rs) sz [.ref (ad 1)]) (va_Qi (fun r (u : Nat → Int32) => r = -1 ∧ ∀ i, i < 16 → u i = -1) (fun (u : Nat → Int32) (t : State) => xB (dC, dI) vwCl (xt cd) (xA 15 ad sz) (xw ad cd w wr fl pw sc lw rot vb rec tk u row cur ser dur wo bts us act rd rs) t) (xA 15 ad sz)) 0 0 (xA 15 ad sz) := by
  refine Met.ofW (cc := b_S_findNewestPages) (maxL := 4) (ret := (some (.int))) (by decide) rfl ?_
  intro P e s m args below meth c0 s₁ B hml hv
  obtain ⟨rfl, hsz, hP, hK, hD0⟩ := hv
  have hx := B.exec
  have hb := B.bytes
  have hr := B.returns
  have hts := atoms_spec (ws := w_S_findNewestPages) B.pre
  have hown : s.vm.findClass R_S = some m.cls := findClass_of_methodNamed B.named
  have hlocks := B.notSynchronized
  subst hsz
  have hD := xw_D (sz := s.heap.size) hD0
  have hS : va_S (xA 15 ad s.heap.size) s.heap s.heap [] := va_S.rf
  have hl := lv_entry ([.ref (ad 1)]) (n := 4) (Nat.le_of_ble_eq_true rfl)
  rw [lg_entry_eq]
  generalize (lg_sl ([.ref (ad 1)]) ++ List.replicate (4 - (lg_sl ([.ref (ad 1)])).length) Slot.unset).toArray = ls at hl ⊢
  have hl : lv_has ls 4 [(0, .ref (ad 1))] := hl
  refine lv_iconst (v := nI 0) hx hb d_S_findNewestPages_0 (by decide) ?_
  refine lv_istore_n hx hb d_S_findNewestPages_1 rfl hl (by decide) rfl (fun ls hl => ?_)
  have hl : lv_has ls 4 [(1, .int (nI 0)), (0, .ref (ad 1))] := hl
  have lp2 : ∀ (n : Nat) (k : Nat) (lv : Nat → Int32) (H : Heap) (locs : List Loc) (ls : Array Slot), (16 - k) < n → (k ≤ 16) → (∀ i, i < k → lv i = -1) → lv_has ls 4 [(0, .ref (ad 1)), (1, .int (nI k))] → va_P (dC, dI) vwCl (xw ad cd w wr fl pw sc lw rot vb rec tk lv row cur ser dur wo bts us act rd rs) H → va_D (xA 15 ad s.heap.size) (xw ad cd w wr fl pw sc lw rot vb rec tk lv row cur ser dur wo bts us act rd rs) → va_S (xA 15 ad s.heap.size) s.heap H locs → W P l e (headSpec w_S_findNewestPages ({ frames := 2, cells := 0, slots := 0, locals := 44 })).room s m (([.ref (ad 1)] : List Value).toArray) below meth c0 H locs 0 0 (MQ below (va_Qi (fun r (u : Nat → Int32) => r = -1 ∧ ∀ i, i < 16 → u i = -1) (fun (u : Nat → Int32) (t : State) => xB (dC, dI) vwCl (xt cd) (xA 15 ad s.heap.size) (xw ad cd w wr fl pw sc lw rot vb rec tk u row cur ser dur wo bts us act rd rs) t) (xA 15 ad s.heap.size)) (([.ref (ad 1)] : List Value).toArray) s 0 0 (xA 15 ad s.heap.size)) (F0 m 2 ls []) := by
    intro n
    induction n with
    | zero => intro k lv H locs ls hm; intros; omega
    | succ n ih2 =>
      intro k lv H locs ls hm hk hf hl hP hD hS
      refine lv_iload_n hx hb d_S_findNewestPages_2 rfl (lv_at hl 1 rfl) ?_
      refine lv_bipush (v := nI 16) hx hb d_S_findNewestPages_3 (by decide) ?_
      refine lv_icmp_ge (tgt := 21) hx hb d_S_findNewestPages_5 (by decide) (fun c5 => ?_) (fun c5 => ?_)
      ·
        have c5 := cd_ge_t (by omega) (by omega) c5
        refine lv_iconst (v := (-1)) hx hb d_S_findNewestPages_21 (by decide) ?_
        refine lv_istore_n hx hb d_S_findNewestPages_22 rfl hl (by decide) rfl (fun ls hl => ?_)
        have hl : lv_has ls 4 [(1, .int (-1)), (0, .ref (ad 1))] := hl
        refine lv_iconst (v := nI 0) hx hb d_S_findNewestPages_23 (by decide) ?_
        refine lv_istore_n hx hb d_S_findNewestPages_24 rfl hl (by decide) rfl (fun ls hl => ?_)
        have hl : lv_has ls 4 [(2, .int (nI 0)), (1, .int (-1)), (0, .ref (ad 1))] := hl
        have lp25 : ∀ (n : Nat) (k : Nat) (ls : Array Slot), (32 - k) < n → (k ≤ 32) → lv_has ls 4 [(0, .ref (ad 1)), (1, .int (-1)), (2, .int (nI k))] → W P l e (headSpec w_S_findNewestPages ({ frames := 2, cells := 0, slots := 0, locals := 44 })).room s m (([.ref (ad 1)] : List Value).toArray) below meth c0 H locs 0 0 (MQ below (va_Qi (fun r (u : Nat → Int32) => r = -1 ∧ ∀ i, i < 16 → u i = -1) (fun (u : Nat → Int32) (t : State) => xB (dC, dI) vwCl (xt cd) (xA 15 ad s.heap.size) (xw ad cd w wr fl pw sc lw rot vb rec tk u row cur ser dur wo bts us act rd rs) t) (xA 15 ad s.heap.size)) (([.ref (ad 1)] : List Value).toArray) s 0 0 (xA 15 ad s.heap.size)) (F0 m 25 ls []) := by
          intro n
          induction n with
          | zero => intro k ls hm; intros; omega
          | succ n ih25 =>
            intro k ls hm hk hl
            refine lv_iload_n hx hb d_S_findNewestPages_25 rfl (lv_at hl 2 rfl) ?_
            refine lv_bipush (v := nI 32) hx hb d_S_findNewestPages_26 (by decide) ?_
            refine lv_icmp_ge (tgt := 84) hx hb d_S_findNewestPages_28 (by decide) (fun c28 => ?_) (fun c28 => ?_)
            ·
              have c28 := cd_ge_t (by omega) (by omega) c28
              refine lv_iload_n hx hb d_S_findNewestPages_84 rfl (lv_at hl 1 rfl) ?_
              exact W.iret (v := (-1)) hx hb hr (fun t ht hW => ⟨⟨(-1), lv, rfl, ⟨rfl, fun i hi => hf i (by omega)⟩, ⟨by rw [ht]; exact hP, va_K.moved hW.alike hK, hD⟩⟩, hS.F ht⟩) hS.2.2 d_S_findNewestPages_85
            ·
              have c28 := cd_ge_f (by omega) (by omega) c28
              refine lv_aload_n hx hb d_S_findNewestPages_31 rfl (lv_at hl 0 rfl) ?_
              refine va_get (D := (dC, dI)) (ci := 3) (v := .ref (ad 2)) (C := R_S) (T := F_S) (N := 7) hx hb hts (fun w h => List.mem_cons_of_mem _ (in_S w h)) hown hK hP 1 rfl rfl 0 (by decide) (hts (.fieldLink R_S 12 R_S "chip" "LWeighRecorder$Chip;") (List.mem_cons_of_mem _ t_52)) (fun _ h9 => h9) rfl d_S_findNewestPages_32 ?_
              refine lv_iload_n hx hb d_S_findNewestPages_35 rfl (lv_at hl 2 rfl) ?_
              refine vp_callSi (va_runV (C := R_C) (As := [.int (nI k)]) (rest := []) ⟨hx, hb, hml, hown, hts⟩ (c_C_isRight_f l dC dI ad cd w wr fl pw sc lw rot vb rec tk lv row cur ser dur wo bts us act rd rs k (by omega) (hw _ (by omega))) (cwV 1 hts (g_V t_160 t_161 t_162 t_3 t_163) rfl rfl rfl (by decide +kernel) ⟨by decide, by decide⟩) (xR_v hP hK 2 rfl rfl) rfl rfl hl.1 rfl (lv_room (Nat.le_of_ble_eq_true rfl)) d_S_findNewestPages_36 ⟨Nat.le_refl _, Nat.le_refl _⟩).run (fun r36 q36 => ?_)
              subst q36
              refine lv_if_eq (tgt := 78) hx hb d_S_findNewestPages_39 (by decide) (fun c39 => ?_) (fun c39 => ?_)
              ·
                refine lv_iinc (k := 2) (v := nI (k + 1)) hx hb d_S_findNewestPages_78 hl rfl (nI_1 _) (by decide) rfl (fun ls hl => ?_)
                have hl : lv_has ls 4 [(2, .int (nI (k + 1))), (0, .ref (ad 1)), (1, .int (-1))] := hl
                refine lv_goto (tgt := 25) hx hb d_S_findNewestPages_81 (by decide) ?_
                exact ih25 (k + 1) ls (by omega) (by omega) (lv_sub hl [1, 2, 0] rfl)
              ·
                exact absurd c39 (by decide)
        exact lp25 _ 0 ls (Nat.lt_succ_self _) (by omega) (lv_sub hl [2, 1, 0] rfl)
      ·
        have c5 := cd_ge_f (by omega) (by omega) c5
        refine lv_aload_n hx hb d_S_findNewestPages_8 rfl (lv_at hl 0 rfl) ?_
        refine va_get (D := (dC, dI)) (ci := 3) (v := .ref (ad 6)) (C := R_S) (T := F_S) (N := 7) hx hb hts (fun w h => List.mem_cons_of_mem _ (in_S w h)) hown hK hP 1 rfl rfl 1 (by decide) (hts (.fieldLink R_S 18 R_S "livePages" "[I") (List.mem_cons_of_mem _ t_53)) (fun _ h9 => h9) rfl d_S_findNewestPages_9 ?_
        refine lv_iload_n hx hb d_S_findNewestPages_12 rfl (lv_at hl 1 rfl) ?_
        refine lv_iconst (v := (-1)) hx hb d_S_findNewestPages_13 (by decide) ?_
        refine va_iast hx hb hK hP hD hS 6 1 rfl rfl (vp_in_nI (by omega) (by decide)) d_S_findNewestPages_14 (fun H locs hP hD hS => ?_)
        rw [nI_clamp (by omega)] at hP hD
        have hP : va_P (dC, dI) vwCl (xw ad cd w wr fl pw sc lw rot vb rec tk (upd lv k (-1)) row cur ser dur wo bts us act rd rs) H := hP
        have hD : va_D (xA 15 ad s.heap.size) (xw ad cd w wr fl pw sc lw rot vb rec tk (upd lv k (-1)) row cur ser dur wo bts us act rd rs) := hD
        refine lv_iinc (k := 1) (v := nI (k + 1)) hx hb d_S_findNewestPages_15 hl rfl (nI_1 _) (by decide) rfl (fun ls hl => ?_)
        have hl : lv_has ls 4 [(1, .int (nI (k + 1))), (0, .ref (ad 1))] := hl
        refine lv_goto (tgt := 2) hx hb d_S_findNewestPages_18 (by decide) ?_
        exact ih2 (k + 1) (upd lv k (-1)) H locs ls (by omega) (by omega) (upd_lt hf) (lv_sub hl [1, 0] rfl) hP hD hS
  exact lp2 _ 0 live s.heap [] ls (Nat.lt_succ_self _) (by omega) (fun i hi => absurd hi (Nat.not_lt_zero i)) (lv_sub hl [1, 0] rfl) hP hD hS
end
section
set_option maxHeartbeats 4000000 in
set_option maxRecDepth 100000 in
theorem c_S_restore_f (l : Launch) (dC : Nat → ClassId) (dI : Nat → Nat → Nat) (ad cd : Nat → Nat) (sz : Nat) (w wr fl : Nat → Int32) (pw sc : Int32) (lw rot vb : Nat → Int32) (rec tk : Int32) (live row : Nat → Int32) (cur ser dur wo : Int32) (bts : Nat → Int32) (us : Int32) (act : Nat → Int32) (rd rs : Int32)  (hw : ∀ i, i < 512 → w i = -1) : Met l y_S_restore w_S_restore ({ frames := 3, cells := 0, slots := 0, locals := 67 }) (xP (dC, dI) vwCl (xt cd) (xw ad cd w wr fl pw sc lw rot vb rec tk live row cur ser dur wo bts us act rd rs) sz [.ref (ad 1), .ref (ad 3)]) (va_Qv (fun (u : Nat → Int32) => ∀ i, i < 16 → u i = -1) (fun (u : Nat → Int32) (t : State) => xB (dC, dI) vwCl (xt cd) (xA 15 ad sz) (xw ad cd w wr fl pw sc lw rot vb (nI 0) (nI 0) u row (-1) (nI 0) (nI 0) (nI 0) bts us act rd rs) t) (xA 15 ad sz)) 0 0 (xA 15 ad sz) := by
  refine Met.ofW (cc := b_S_restore) (maxL := 5) (ret := none) (by decide) rfl ?_
  intro P e s m args below meth c0 s₁ B hml hv
  obtain ⟨rfl, hsz, hP, hK, hD0⟩ := hv
  have hx := B.exec
  have hb := B.bytes
  have hr := B.returns
  have hts := atoms_spec (ws := w_S_restore) B.pre
  have hown : s.vm.findClass R_S = some m.cls := findClass_of_methodNamed B.named
  have hlocks := B.notSynchronized
  subst hsz
  have hD := xw_D (sz := s.heap.size) hD0
  have hS : va_S (xA 15 ad s.heap.size) s.heap s.heap [] := va_S.rf
  have hl := lv_entry ([.ref (ad 1), .ref (ad 3)]) (n := 5) (Nat.le_of_ble_eq_true rfl)
  rw [lg_entry_eq]
  generalize (lg_sl ([.ref (ad 1), .ref (ad 3)]) ++ List.replicate (5 - (lg_sl ([.ref (ad 1), .ref (ad 3)])).length) Slot.unset).toArray = ls at hl ⊢
  have hl : lv_has ls 5 [(0, .ref (ad 1)), (1, .ref (ad 3))] := hl
  refine lv_aload_n hx hb d_S_restore_0 rfl (lv_at hl 0 rfl) ?_
  have hSz := hS.1
  refine va_calli (va_runV (C := R_S) (As := []) (rest := []) ⟨hx, hb, hml, hown, hts⟩ (c_S_findNewestPages_f l dC dI ad cd s.heap.size w wr fl pw sc lw rot vb rec tk live row cur ser dur wo bts us act rd rs  (hw)) (cwV 0 hts (g_V t_156 t_158 s_1 t_2 t_159) rfl rfl rfl (by decide +kernel) ⟨by decide, by decide⟩) (xP_v hP hK hD 1 rfl rfl) rfl rfl hl.1 rfl (lv_room (Nat.le_of_ble_eq_true rfl)) d_S_restore_1 ⟨Nat.le_refl _, Nat.le_refl _⟩) hS (fun q _ h => xA_up hS.1 q h) (fun q h => xA_up hS.1 q h) (fun r1 u1 t H1 locs1 ht hvm q1 hB hz1 hk1 hS => ?_)
  obtain ⟨hP1, hK1, hD1⟩ := hB
  rw [ht] at hP1
  have hD : va_D (xA 15 ad s.heap.size) (xw ad cd w wr fl pw sc lw rot vb rec tk u1 row cur ser dur wo bts us act rd rs) := hD1.weaken (fun _ q _ h => xA_up hSz _ h)
  have hP : va_P (dC, dI) vwCl (xw ad cd w wr fl pw sc lw rot vb rec tk u1 row cur ser dur wo bts us act rd rs) H1 := hP1
  generalize H1 = H at hP hS ⊢
  generalize locs1 = locs at hS ⊢
  obtain ⟨rfl, hlv⟩ := q1
  refine lv_istore_n hx hb d_S_restore_4 rfl hl (by decide) rfl (fun ls hl => ?_)
  have hl : lv_has ls 5 [(2, .int (-1)), (0, .ref (ad 1)), (1, .ref (ad 3))] := hl
  refine lv_aload_n hx hb d_S_restore_5 rfl (lv_at hl 1 rfl) ?_
  refine lv_iload_n hx hb d_S_restore_6 rfl (lv_at hl 0 rfl) ?_
  refine lv_iconst (v := (-1)) hx hb d_S_restore_7 (by decide) ?_
  refine lv_icmp_ne (tgt := 15) hx hb d_S_restore_8 (by decide) (fun c8 => ?_) (fun c8 => ?_)
  ·
    exact absurd c8 (by decide)
  ·
    refine lv_iconst (v := (-1)) hx hb d_S_restore_11 (by decide) ?_
    refine lv_goto (tgt := 18) hx hb d_S_restore_12 (by decide) ?_
    refine va_put (D := (dC, dI)) (ci := 3) (v := .int (-1)) (ty := .int) (C := R_S) (T := F_S) (N := 7) hx hb hts (fun w h => List.mem_cons_of_mem _ (in_S w h)) t_S ok_S nm_S hown hK hP hD hS 1 rfl rfl 3 (by decide) (hts (.fieldLink R_S 25 R_S "cursor" "I") (List.mem_cons_of_mem _ t_55)) (fun _ h9 => h9) rfl (by decide +kernel) rfl rfl (Nat.le_of_ble_eq_true rfl) d_S_restore_18 (fun H locs hP hD hS => ?_)
    have hP : va_P (dC, dI) vwCl (xw ad cd w wr fl pw sc lw rot vb rec tk u1 row (-1) ser dur wo bts us act rd rs) H := hP
    have hD : va_D (xA 15 ad s.heap.size) (xw ad cd w wr fl pw sc lw rot vb rec tk u1 row (-1) ser dur wo bts us act rd rs) := hD
    refine lv_aload_n hx hb d_S_restore_21 rfl (lv_at hl 1 rfl) ?_
    refine lv_iload_n hx hb d_S_restore_22 rfl (lv_at hl 0 rfl) ?_
    refine lv_iconst (v := (-1)) hx hb d_S_restore_23 (by decide) ?_
    refine lv_icmp_ne (tgt := 31) hx hb d_S_restore_24 (by decide) (fun c24 => ?_) (fun c24 => ?_)
    ·
      exact absurd c24 (by decide)
    ·
      refine lv_iconst (v := nI 0) hx hb d_S_restore_27 (by decide) ?_
      refine lv_goto (tgt := 40) hx hb d_S_restore_28 (by decide) ?_
      refine va_put (D := (dC, dI)) (ci := 3) (v := .int (nI 0)) (ty := .int) (C := R_S) (T := F_S) (N := 7) hx hb hts (fun w h => List.mem_cons_of_mem _ (in_S w h)) t_S ok_S nm_S hown hK hP hD hS 1 rfl rfl 4 (by decide) (hts (.fieldLink R_S 29 R_S "serial" "I") (List.mem_cons_of_mem _ t_56)) (fun _ h9 => h9) rfl (by decide +kernel) rfl rfl (Nat.le_of_ble_eq_true rfl) d_S_restore_40 (fun H locs hP hD hS => ?_)
      have hP : va_P (dC, dI) vwCl (xw ad cd w wr fl pw sc lw rot vb rec tk u1 row (-1) (nI 0) dur wo bts us act rd rs) H := hP
      have hD : va_D (xA 15 ad s.heap.size) (xw ad cd w wr fl pw sc lw rot vb rec tk u1 row (-1) (nI 0) dur wo bts us act rd rs) := hD
      refine lv_aload_n hx hb d_S_restore_43 rfl (lv_at hl 1 rfl) ?_
      refine lv_iconst (v := nI 0) hx hb d_S_restore_44 (by decide) ?_
      refine va_put (D := (dC, dI)) (ci := 3) (v := .int (nI 0)) (ty := .boolean) (C := R_S) (T := F_S) (N := 7) hx hb hts (fun w h => List.mem_cons_of_mem _ (in_S w h)) t_S ok_S nm_S hown hK hP hD hS 1 rfl rfl 6 (by decide) (hts (.fieldLink R_S 35 R_S "wornOut" "Z") (List.mem_cons_of_mem _ t_58)) (fun _ h9 => h9) rfl (by decide +kernel) (by first | rfl | decide | assumption) rfl (Nat.le_of_ble_eq_true rfl) d_S_restore_45 (fun H locs hP hD hS => ?_)
      have hP : va_P (dC, dI) vwCl (xw ad cd w wr fl pw sc lw rot vb rec tk u1 row (-1) (nI 0) dur (nI 0) bts us act rd rs) H := hP
      have hD : va_D (xA 15 ad s.heap.size) (xw ad cd w wr fl pw sc lw rot vb rec tk u1 row (-1) (nI 0) dur (nI 0) bts us act rd rs) := hD
      refine lv_aload_n hx hb d_S_restore_48 rfl (lv_at hl 2 rfl) ?_
      have hSz := hS.1
      refine va_callv (va_runV (C := R_G) (As := []) (rest := []) ⟨hx, hb, hml, hown, hts⟩ (c_G_empty l dC dI ad cd H.size w wr fl pw sc lw rot vb rec tk u1 row (-1) (nI 0) dur (nI 0) bts us act rd rs  ) (cwV 0 hts (g_V t_178 t_179 t_180 t_4 t_181) rfl rfl rfl (by decide +kernel) ⟨by decide, by decide⟩) (xP_v hP hK hD 3 rfl rfl) rfl rfl hl.1 rfl (lv_room (Nat.le_of_ble_eq_true rfl)) d_S_restore_49 ⟨Nat.le_refl _, Nat.le_refl _⟩) hS (fun q _ h => xA_up hS.1 q h) (fun q h => xA_up hS.1 q h) (fun u49 t H1 locs1 ht hvm q49 hB hz1 hk1 hS => ?_)
      obtain ⟨hP1, hK1, hD1⟩ := hB
      rw [ht] at hP1
      have hD : va_D (xA 15 ad s.heap.size) (xw ad cd w wr fl pw sc lw rot vb (nI 0) (nI 0) u1 row (-1) (nI 0) dur (nI 0) bts us act rd rs) := hD1.weaken (fun _ q _ h => xA_up hSz _ h)
      have hP : va_P (dC, dI) vwCl (xw ad cd w wr fl pw sc lw rot vb (nI 0) (nI 0) u1 row (-1) (nI 0) dur (nI 0) bts us act rd rs) H1 := hP1
      generalize H1 = H at hP hS ⊢
      generalize locs1 = locs at hS ⊢
      refine lv_iconst (v := nI 1) hx hb d_S_restore_52 (by decide) ?_
      refine lv_istore_n hx hb d_S_restore_53 rfl hl (by decide) rfl (fun ls hl => ?_)
      have hl : lv_has ls 5 [(3, .int (nI 1)), (2, .int (-1)), (0, .ref (ad 1)), (1, .ref (ad 3))] := hl
      refine lv_iconst (v := nI 0) hx hb d_S_restore_54 (by decide) ?_
      refine lv_istore hx hb d_S_restore_55 hl (by decide) rfl (fun ls hl => ?_)
      have hl : lv_has ls 5 [(4, .int (nI 0)), (3, .int (nI 1)), (2, .int (-1)), (0, .ref (ad 1)), (1, .ref (ad 3))] := hl
      have lp57 : ∀ (n : Nat) (k : Nat) (gv : Int32) (lv : Nat → Int32) (H : Heap) (locs : List Loc) (ls : Array Slot), (16 - k) < n → (k ≤ 16) → (∀ i, i < 16 → lv i = -1) → lv_has ls 5 [(0, .ref (ad 1)), (1, .ref (ad 3)), (3, .int gv), (4, .int (nI k))] → va_P (dC, dI) vwCl (xw ad cd w wr fl pw sc lw rot vb (nI 0) (nI 0) lv row (-1) (nI 0) dur (nI 0) bts us act rd rs) H → va_D (xA 15 ad s.heap.size) (xw ad cd w wr fl pw sc lw rot vb (nI 0) (nI 0) lv row (-1) (nI 0) dur (nI 0) bts us act rd rs) → va_S (xA 15 ad s.heap.size) s.heap H locs → W P l e (headSpec w_S_restore ({ frames := 3, cells := 0, slots := 0, locals := 67 })).room s m (([.ref (ad 1), .ref (ad 3)] : List Value).toArray) below meth c0 H locs 0 0 (MQ below (va_Qv (fun (u : Nat → Int32) => ∀ i, i < 16 → u i = -1) (fun (u : Nat → Int32) (t : State) => xB (dC, dI) vwCl (xt cd) (xA 15 ad s.heap.size) (xw ad cd w wr fl pw sc lw rot vb (nI 0) (nI 0) u row (-1) (nI 0) (nI 0) (nI 0) bts us act rd rs) t) (xA 15 ad s.heap.size)) (([.ref (ad 1), .ref (ad 3)] : List Value).toArray) s 0 0 (xA 15 ad s.heap.size)) (F0 m 57 ls []) := by
        intro n
        induction n with
        | zero => intro k gv lv H locs ls hm; intros; omega
        | succ n ih57 =>
          intro k gv lv H locs ls hm hk hf hl hP hD hS
          refine lv_iload hx hb d_S_restore_57 (lv_at hl 3 rfl) ?_
          refine lv_bipush (v := nI 16) hx hb d_S_restore_59 (by decide) ?_
          refine lv_icmp_ge (tgt := 128) hx hb d_S_restore_61 (by decide) (fun c61 => ?_) (fun c61 => ?_)
          ·
            have c61 := cd_ge_t (by omega) (by omega) c61
            refine lv_aload_n hx hb d_S_restore_128 rfl (lv_at hl 0 rfl) ?_
            refine lv_aload_n hx hb d_S_restore_129 rfl (lv_at hl 1 rfl) ?_
            refine vp_callSi (va_runV (C := R_G) (As := []) (rest := [.ref (ad 1)]) ⟨hx, hb, hml, hown, hts⟩ (c_G_recordCount l dC dI ad cd w wr fl pw sc lw rot vb (nI 0) (nI 0) lv row (-1) (nI 0) dur (nI 0) bts us act rd rs  ) (cwV 0 hts (g_V t_209 t_210 t_211 t_4 t_212) rfl rfl rfl (by decide +kernel) ⟨by decide, by decide⟩) (xR_v hP hK 3 rfl rfl) rfl rfl hl.1 rfl (lv_room (Nat.le_of_ble_eq_true rfl)) d_S_restore_130 ⟨Nat.le_refl _, Nat.le_refl _⟩).run (fun r130 q130 => ?_)
            subst q130
            refine va_put (D := (dC, dI)) (ci := 3) (v := .int (nI 0)) (ty := .int) (C := R_S) (T := F_S) (N := 7) hx hb hts (fun w h => List.mem_cons_of_mem _ (in_S w h)) t_S ok_S nm_S hown hK hP hD hS 1 rfl rfl 5 (by decide) (hts (.fieldLink R_S 32 R_S "durable" "I") (List.mem_cons_of_mem _ t_57)) (fun _ h9 => h9) rfl (by decide +kernel) rfl rfl (Nat.le_of_ble_eq_true rfl) d_S_restore_133 (fun H locs hP hD hS => ?_)
            have hP : va_P (dC, dI) vwCl (xw ad cd w wr fl pw sc lw rot vb (nI 0) (nI 0) lv row (-1) (nI 0) (nI 0) (nI 0) bts us act rd rs) H := hP
            have hD : va_D (xA 15 ad s.heap.size) (xw ad cd w wr fl pw sc lw rot vb (nI 0) (nI 0) lv row (-1) (nI 0) (nI 0) (nI 0) bts us act rd rs) := hD
            exact W.vret hx hb hr (fun t ht hW => ⟨⟨lv, rfl, fun i hi => hf i hi, ⟨by rw [ht]; exact hP, va_K.moved hW.alike hK, hD⟩⟩, hS.F ht⟩) hS.2.2 d_S_restore_136
          ·
            have c61 := cd_ge_f (by omega) (by omega) c61
            refine lv_iload_n hx hb d_S_restore_64 rfl (lv_at hl 2 rfl) ?_
            refine lv_if_eq (tgt := 83) hx hb d_S_restore_65 (by decide) (fun c65 => ?_) (fun c65 => ?_)
            ·
              refine lv_iconst (v := nI 0) hx hb d_S_restore_83 (by decide) ?_
              refine lv_istore_n hx hb d_S_restore_84 rfl hl (by decide) rfl (fun ls hl => ?_)
              have hl : lv_has ls 5 [(3, .int (nI 0)), (0, .ref (ad 1)), (1, .ref (ad 3)), (4, .int (nI k))] := hl
              refine lv_iload_n hx hb d_S_restore_85 rfl (lv_at hl 0 rfl) ?_
              refine lv_if_eq (tgt := 114) hx hb d_S_restore_86 (by decide) (fun c86 => ?_) (fun c86 => ?_)
              ·
                have c86 := cz_eq_t (by omega) c86
                refine lv_aload_n hx hb d_S_restore_114 rfl (lv_at hl 1 rfl) ?_
                refine va_get (D := (dC, dI)) (ci := 3) (v := .ref (ad 6)) (C := R_S) (T := F_S) (N := 7) hx hb hts (fun w h => List.mem_cons_of_mem _ (in_S w h)) hown hK hP 1 rfl rfl 1 (by decide) (hts (.fieldLink R_S 18 R_S "livePages" "[I") (List.mem_cons_of_mem _ t_53)) (fun _ h9 => h9) rfl d_S_restore_115 ?_
                refine lv_iload hx hb d_S_restore_118 (lv_at hl 3 rfl) ?_
                refine lv_iconst (v := (-1)) hx hb d_S_restore_120 (by decide) ?_
                refine va_iast hx hb hK hP hD hS 6 1 rfl rfl (vp_in_nI (by omega) (by decide)) d_S_restore_121 (fun H locs hP hD hS => ?_)
                rw [nI_clamp (by omega)] at hP hD
                have hP : va_P (dC, dI) vwCl (xw ad cd w wr fl pw sc lw rot vb (nI 0) (nI 0) (upd lv k (-1)) row (-1) (nI 0) dur (nI 0) bts us act rd rs) H := hP
                have hD : va_D (xA 15 ad s.heap.size) (xw ad cd w wr fl pw sc lw rot vb (nI 0) (nI 0) (upd lv k (-1)) row (-1) (nI 0) dur (nI 0) bts us act rd rs) := hD
                refine lv_iinc (k := 3) (v := nI (k + 1)) hx hb d_S_restore_122 hl rfl (nI_1 _) (by decide) rfl (fun ls hl => ?_)
                have hl : lv_has ls 5 [(4, .int (nI (k + 1))), (3, .int (nI 0)), (0, .ref (ad 1)), (1, .ref (ad 3))] := hl
                refine lv_goto (tgt := 57) hx hb d_S_restore_125 (by decide) ?_
                exact ih57 (k + 1) (nI 0) (upd lv k (-1)) H locs ls (by omega) (by omega) (upd_all hf) (lv_sub hl [2, 3, 1, 0] rfl) hP hD hS
              ·
                exact absurd c86 (by decide)
            ·
              refine lv_aload_n hx hb d_S_restore_68 rfl (lv_at hl 0 rfl) ?_
              refine va_get (D := (dC, dI)) (ci := 3) (v := .ref (ad 6)) (C := R_S) (T := F_S) (N := 7) hx hb hts (fun w h => List.mem_cons_of_mem _ (in_S w h)) hown hK hP 1 rfl rfl 1 (by decide) (hts (.fieldLink R_S 18 R_S "livePages" "[I") (List.mem_cons_of_mem _ t_53)) (fun _ h9 => h9) rfl d_S_restore_69 ?_
              refine lv_iload hx hb d_S_restore_72 (lv_at hl 3 rfl) ?_
              refine va_iald hx hb hK hP 6 1 rfl rfl (vp_in_nI (by omega) (by decide)) d_S_restore_74 ?_
              refine tp_i (y := lv k) (by rw [nI_clamp (by omega)]) ?_
              refine lv_iconst (v := (-1)) hx hb d_S_restore_75 (by decide) ?_
              refine lv_icmp_eq (tgt := 83) hx hb d_S_restore_76 (by decide) (fun c76 => ?_) (fun c76 => ?_)
              ·
                refine lv_iconst (v := nI 0) hx hb d_S_restore_83 (by decide) ?_
                refine lv_istore_n hx hb d_S_restore_84 rfl hl (by decide) rfl (fun ls hl => ?_)
                have hl : lv_has ls 5 [(3, .int (nI 0)), (0, .ref (ad 1)), (1, .ref (ad 3)), (4, .int (nI k))] := hl
                refine lv_iload_n hx hb d_S_restore_85 rfl (lv_at hl 0 rfl) ?_
                refine lv_if_eq (tgt := 114) hx hb d_S_restore_86 (by decide) (fun c86 => ?_) (fun c86 => ?_)
                ·
                  have c86 := cz_eq_t (by omega) c86
                  refine lv_aload_n hx hb d_S_restore_114 rfl (lv_at hl 1 rfl) ?_
                  refine va_get (D := (dC, dI)) (ci := 3) (v := .ref (ad 6)) (C := R_S) (T := F_S) (N := 7) hx hb hts (fun w h => List.mem_cons_of_mem _ (in_S w h)) hown hK hP 1 rfl rfl 1 (by decide) (hts (.fieldLink R_S 18 R_S "livePages" "[I") (List.mem_cons_of_mem _ t_53)) (fun _ h9 => h9) rfl d_S_restore_115 ?_
                  refine lv_iload hx hb d_S_restore_118 (lv_at hl 3 rfl) ?_
                  refine lv_iconst (v := (-1)) hx hb d_S_restore_120 (by decide) ?_
                  refine va_iast hx hb hK hP hD hS 6 1 rfl rfl (vp_in_nI (by omega) (by decide)) d_S_restore_121 (fun H locs hP hD hS => ?_)
                  rw [nI_clamp (by omega)] at hP hD
                  have hP : va_P (dC, dI) vwCl (xw ad cd w wr fl pw sc lw rot vb (nI 0) (nI 0) (upd lv k (-1)) row (-1) (nI 0) dur (nI 0) bts us act rd rs) H := hP
                  have hD : va_D (xA 15 ad s.heap.size) (xw ad cd w wr fl pw sc lw rot vb (nI 0) (nI 0) (upd lv k (-1)) row (-1) (nI 0) dur (nI 0) bts us act rd rs) := hD
                  refine lv_iinc (k := 3) (v := nI (k + 1)) hx hb d_S_restore_122 hl rfl (nI_1 _) (by decide) rfl (fun ls hl => ?_)
                  have hl : lv_has ls 5 [(4, .int (nI (k + 1))), (3, .int (nI 0)), (0, .ref (ad 1)), (1, .ref (ad 3))] := hl
                  refine lv_goto (tgt := 57) hx hb d_S_restore_125 (by decide) ?_
                  exact ih57 (k + 1) (nI 0) (upd lv k (-1)) H locs ls (by omega) (by omega) (upd_all hf) (lv_sub hl [2, 3, 1, 0] rfl) hP hD hS
                ·
                  exact absurd c86 (by decide)
              ·
                exact absurd (hf k (by omega)) c76
      exact lp57 _ 0 (nI 1) u1 H locs ls (Nat.lt_succ_self _) (by omega) hlv (lv_sub hl [3, 4, 1, 0] rfl) hP hD hS
set_option maxHeartbeats 4000000 in
set_option maxRecDepth 100000 in
theorem c_R_forgetReadings (l : Launch) (dC : Nat → ClassId) (dI : Nat → Nat → Nat) (ad cd : Nat → Nat) (sz : Nat) (w wr fl : Nat → Int32) (pw sc : Int32) (lw rot vb : Nat → Int32) (rec tk : Int32) (live row : Nat → Int32) (cur ser dur wo : Int32) (bts : Nat → Int32) (us : Int32) (act : Nat → Int32) (rd rs : Int32)  : Met l y_R_forgetReadings w_R_forgetReadings ({ frames := 0, cells := 0, slots := 0, locals := 0 }) (xP (dC, dI) vwCl (xt cd) (xw ad cd w wr fl pw sc lw rot vb rec tk live row cur ser dur wo bts us act rd rs) sz [.ref (ad 0)]) (va_Qv (fun (u : Unit) => True) (fun (u : Unit) (t : State) => xB (dC, dI) vwCl (xt cd) (xA 15 ad sz) (xw ad cd w wr fl pw sc lw rot vb rec tk live row cur ser dur wo bts us act (nI 0) (nI 0)) t) (xA 15 ad sz)) 0 0 (xA 15 ad sz) := by
  refine Met.ofW (cc := b_R_forgetReadings) (maxL := 1) (ret := none) (by decide) rfl ?_
  intro P e s m args below meth c0 s₁ B hml hv
  obtain ⟨rfl, hsz, hP, hK, hD0⟩ := hv
  have hx := B.exec
  have hb := B.bytes
  have hr := B.returns
  have hts := atoms_spec (ws := w_R_forgetReadings) B.pre
  have hown : s.vm.findClass R_R = some m.cls := findClass_of_methodNamed B.named
  have hlocks := B.notSynchronized
  subst hsz
  have hD := xw_D (sz := s.heap.size) hD0
  have hS : va_S (xA 15 ad s.heap.size) s.heap s.heap [] := va_S.rf
  have hl := lv_entry ([.ref (ad 0)]) (n := 1) (Nat.le_of_ble_eq_true rfl)
  rw [lg_entry_eq]
  generalize (lg_sl ([.ref (ad 0)]) ++ List.replicate (1 - (lg_sl ([.ref (ad 0)])).length) Slot.unset).toArray = ls at hl ⊢
  have hl : lv_has ls 1 [(0, .ref (ad 0))] := hl
  refine lv_aload_n hx hb d_R_forgetReadings_0 rfl (lv_at hl 0 rfl) ?_
  refine lv_iconst (v := nI 0) hx hb d_R_forgetReadings_1 (by decide) ?_
  refine va_put (D := (dC, dI)) (ci := 4) (v := .int (nI 0)) (ty := .int) (C := R_R) (T := F_R) (N := 7) hx hb hts (fun w h => List.mem_cons_of_mem _ (in_R w h)) t_R ok_R nm_R hown hK hP hD hS 0 rfl rfl 5 (by decide) (hts (.fieldLink R_R 41 R_R "readings" "I") (List.mem_cons_of_mem _ t_119)) (fun _ h9 => h9) rfl (by decide +kernel) rfl rfl (Nat.le_of_ble_eq_true rfl) d_R_forgetReadings_2 (fun H locs hP hD hS => ?_)
  have hP : va_P (dC, dI) vwCl (xw ad cd w wr fl pw sc lw rot vb rec tk live row cur ser dur wo bts us act (nI 0) rs) H := hP
  have hD : va_D (xA 15 ad s.heap.size) (xw ad cd w wr fl pw sc lw rot vb rec tk live row cur ser dur wo bts us act (nI 0) rs) := hD
  refine lv_aload_n hx hb d_R_forgetReadings_5 rfl (lv_at hl 0 rfl) ?_
  refine lv_iconst (v := nI 0) hx hb d_R_forgetReadings_6 (by decide) ?_
  refine va_put (D := (dC, dI)) (ci := 4) (v := .int (nI 0)) (ty := .int) (C := R_R) (T := F_R) (N := 7) hx hb hts (fun w h => List.mem_cons_of_mem _ (in_R w h)) t_R ok_R nm_R hown hK hP hD hS 0 rfl rfl 6 (by decide) (hts (.fieldLink R_R 45 R_R "readSteps" "I") (List.mem_cons_of_mem _ t_120)) (fun _ h9 => h9) rfl (by decide +kernel) rfl rfl (Nat.le_of_ble_eq_true rfl) d_R_forgetReadings_7 (fun H locs hP hD hS => ?_)
  have hP : va_P (dC, dI) vwCl (xw ad cd w wr fl pw sc lw rot vb rec tk live row cur ser dur wo bts us act (nI 0) (nI 0)) H := hP
  have hD : va_D (xA 15 ad s.heap.size) (xw ad cd w wr fl pw sc lw rot vb rec tk live row cur ser dur wo bts us act (nI 0) (nI 0)) := hD
  exact W.vret hx hb hr (fun t ht hW => ⟨⟨(), rfl, by first | rfl | trivial | omega, ⟨by rw [ht]; exact hP, va_K.moved hW.alike hK, hD⟩⟩, hS.F ht⟩) hS.2.2 d_R_forgetReadings_10
set_option maxHeartbeats 4000000 in
set_option maxRecDepth 100000 in
theorem c_R_crash (l : Launch) (dC : Nat → ClassId) (dI : Nat → Nat → Nat) (ad cd : Nat → Nat) (sz : Nat) (w wr fl : Nat → Int32) (pw sc : Int32) (lw rot vb : Nat → Int32) (rec tk : Int32) (live row : Nat → Int32) (cur ser dur wo : Int32) (bts : Nat → Int32) (us : Int32) (act : Nat → Int32) (rd rs : Int32)  : Met l y_R_crash w_R_crash ({ frames := 1, cells := 0, slots := 0, locals := 20 }) (xP (dC, dI) vwCl (xt cd) (xw ad cd w wr fl (nI 1) (-1) lw rot vb (nI 0) (nI 0) live row (-1) (nI 0) (nI 0) (nI 0) bts (nI 0) act (nI 0) (nI 0)) sz [.ref (ad 0)]) (va_Qv (fun (u : Unit) => True) (fun (u : Unit) (t : State) => xB (dC, dI) vwCl (xt cd) (xA 15 ad sz) (xw ad cd w wr fl (nI 0) (-1) lw rot vb (nI 0) (nI 0) live row (-1) (nI 0) (nI 0) (nI 0) bts (nI 0) act (nI 0) (nI 0)) t) (xA 15 ad sz)) 0 0 (xA 15 ad sz) := by
  refine Met.ofW (cc := b_R_crash) (maxL := 1) (ret := none) (by decide) rfl ?_
  intro P e s m args below meth c0 s₁ B hml hv
  obtain ⟨rfl, hsz, hP, hK, hD0⟩ := hv
  have hx := B.exec
  have hb := B.bytes
  have hr := B.returns
  have hts := atoms_spec (ws := w_R_crash) B.pre
  have hown : s.vm.findClass R_R = some m.cls := findClass_of_methodNamed B.named
  have hlocks := B.notSynchronized
  subst hsz
  have hD := xw_D (sz := s.heap.size) hD0
  have hS : va_S (xA 15 ad s.heap.size) s.heap s.heap [] := va_S.rf
  have hl := lv_entry ([.ref (ad 0)]) (n := 1) (Nat.le_of_ble_eq_true rfl)
  rw [lg_entry_eq]
  generalize (lg_sl ([.ref (ad 0)]) ++ List.replicate (1 - (lg_sl ([.ref (ad 0)])).length) Slot.unset).toArray = ls at hl ⊢
  have hl : lv_has ls 1 [(0, .ref (ad 0))] := hl
  refine lv_aload_n hx hb d_R_crash_0 rfl (lv_at hl 0 rfl) ?_
  refine va_get (D := (dC, dI)) (ci := 4) (v := .ref (ad 2)) (C := R_R) (T := F_R) (N := 7) hx hb hts (fun w h => List.mem_cons_of_mem _ (in_R w h)) hown hK hP 0 rfl rfl 1 (by decide) (hts (.fieldLink R_R 20 R_R "chip" "LWeighRecorder$Chip;") (List.mem_cons_of_mem _ t_115)) (fun _ h9 => h9) rfl d_R_crash_1 ?_
  have hSz := hS.1
  refine va_callv (va_runV (C := R_C) (As := []) (rest := []) ⟨hx, hb, hml, hown, hts⟩ (c_C_turnOff l dC dI ad cd s.heap.size w wr fl (nI 1) (-1) lw rot vb (nI 0) (nI 0) live row (-1) (nI 0) (nI 0) (nI 0) bts (nI 0) act (nI 0) (nI 0)  ) (cwV 0 hts (g_V t_140 t_141 t_142 t_3 t_143) rfl rfl rfl (by decide +kernel) ⟨by decide, by decide⟩) (xP_v hP hK hD 2 rfl rfl) rfl rfl hl.1 rfl (lv_room (Nat.le_of_ble_eq_true rfl)) d_R_crash_4 ⟨Nat.le_refl _, Nat.le_refl _⟩) hS (fun q _ h => xA_up hS.1 q h) (fun q h => xA_up hS.1 q h) (fun u4 t H1 locs1 ht hvm q4 hB hz1 hk1 hS => ?_)
  obtain ⟨hP1, hK1, hD1⟩ := hB
  rw [ht] at hP1
  have hD : va_D (xA 15 ad s.heap.size) (xw ad cd w wr fl (nI 0) (-1) lw rot vb (nI 0) (nI 0) live row (-1) (nI 0) (nI 0) (nI 0) bts (nI 0) act (nI 0) (nI 0)) := hD1.weaken (fun _ q _ h => xA_up hSz _ h)
  have hP : va_P (dC, dI) vwCl (xw ad cd w wr fl (nI 0) (-1) lw rot vb (nI 0) (nI 0) live row (-1) (nI 0) (nI 0) (nI 0) bts (nI 0) act (nI 0) (nI 0)) H1 := hP1
  generalize H1 = H at hP hS ⊢
  generalize locs1 = locs at hS ⊢
  exact W.vret hx hb hr (fun t ht hW => ⟨⟨(), rfl, by first | rfl | trivial | omega, ⟨by rw [ht]; exact hP, va_K.moved hW.alike hK, hD⟩⟩, hS.F ht⟩) hS.2.2 d_R_crash_7
set_option maxHeartbeats 4000000 in
set_option maxRecDepth 100000 in
theorem c_R_mount_f (l : Launch) (dC : Nat → ClassId) (dI : Nat → Nat → Nat) (ad cd : Nat → Nat) (sz : Nat) (w wr fl : Nat → Int32) (pw sc : Int32) (lw rot vb : Nat → Int32) (rec tk : Int32) (live row : Nat → Int32) (cur ser dur wo : Int32) (bts : Nat → Int32) (us : Int32) (act : Nat → Int32) (rd rs : Int32)  (hw : ∀ i, i < 512 → w i = -1) : Met l y_R_mount w_R_mount ({ frames := 4, cells := 0, slots := 0, locals := 91 }) (xP (dC, dI) vwCl (xt cd) (xw ad cd w wr fl (nI 1) (-1) lw rot vb (nI 0) (nI 0) live row (-1) (nI 0) (nI 0) (nI 0) bts (nI 0) act (nI 0) (nI 0)) sz [.ref (ad 0)]) (va_Qi (fun r (u : Nat → Int32) => r = nI 0) (fun (u : Nat → Int32) (t : State) => xB (dC, dI) vwCl (xt cd) (xA 15 ad sz) (xw ad cd w wr fl (nI 1) (-1) lw rot vb (nI 0) (nI 0) u row (-1) (nI 0) (nI 0) (nI 0) bts (nI 0) act (nI 0) (nI 0)) t) (xA 15 ad sz)) 0 0 (xA 15 ad sz) := by
  refine Met.ofW (cc := b_R_mount) (maxL := 1) (ret := (some (.int))) (by decide) rfl ?_
  intro P e s m args below meth c0 s₁ B hml hv
  obtain ⟨rfl, hsz, hP, hK, hD0⟩ := hv
  have hx := B.exec
  have hb := B.bytes
  have hr := B.returns
  have hts := atoms_spec (ws := w_R_mount) B.pre
  have hown : s.vm.findClass R_R = some m.cls := findClass_of_methodNamed B.named
  have hlocks := B.notSynchronized
  subst hsz
  have hD := xw_D (sz := s.heap.size) hD0
  have hS : va_S (xA 15 ad s.heap.size) s.heap s.heap [] := va_S.rf
  have hl := lv_entry ([.ref (ad 0)]) (n := 1) (Nat.le_of_ble_eq_true rfl)
  rw [lg_entry_eq]
  generalize (lg_sl ([.ref (ad 0)]) ++ List.replicate (1 - (lg_sl ([.ref (ad 0)])).length) Slot.unset).toArray = ls at hl ⊢
  have hl : lv_has ls 1 [(0, .ref (ad 0))] := hl
  refine lv_aload_n hx hb d_R_mount_0 rfl (lv_at hl 0 rfl) ?_
  refine va_get (D := (dC, dI)) (ci := 4) (v := .ref (ad 2)) (C := R_R) (T := F_R) (N := 7) hx hb hts (fun w h => List.mem_cons_of_mem _ (in_R w h)) hown hK hP 0 rfl rfl 1 (by decide) (hts (.fieldLink R_R 20 R_R "chip" "LWeighRecorder$Chip;") (List.mem_cons_of_mem _ t_115)) (fun _ h9 => h9) rfl d_R_mount_1 ?_
  have hSz := hS.1
  refine va_callv (va_runV (C := R_C) (As := []) (rest := []) ⟨hx, hb, hml, hown, hts⟩ (c_C_turnOff l dC dI ad cd s.heap.size w wr fl (nI 1) (-1) lw rot vb (nI 0) (nI 0) live row (-1) (nI 0) (nI 0) (nI 0) bts (nI 0) act (nI 0) (nI 0)  ) (cwV 0 hts (g_V t_140 t_141 t_142 t_3 t_143) rfl rfl rfl (by decide +kernel) ⟨by decide, by decide⟩) (xP_v hP hK hD 2 rfl rfl) rfl rfl hl.1 rfl (lv_room (Nat.le_of_ble_eq_true rfl)) d_R_mount_4 ⟨Nat.le_refl _, Nat.le_refl _⟩) hS (fun q _ h => xA_up hS.1 q h) (fun q h => xA_up hS.1 q h) (fun u4 t H1 locs1 ht hvm q4 hB hz1 hk1 hS => ?_)
  obtain ⟨hP1, hK1, hD1⟩ := hB
  rw [ht] at hP1
  have hD : va_D (xA 15 ad s.heap.size) (xw ad cd w wr fl (nI 0) (-1) lw rot vb (nI 0) (nI 0) live row (-1) (nI 0) (nI 0) (nI 0) bts (nI 0) act (nI 0) (nI 0)) := hD1.weaken (fun _ q _ h => xA_up hSz _ h)
  have hP : va_P (dC, dI) vwCl (xw ad cd w wr fl (nI 0) (-1) lw rot vb (nI 0) (nI 0) live row (-1) (nI 0) (nI 0) (nI 0) bts (nI 0) act (nI 0) (nI 0)) H1 := hP1
  generalize H1 = H at hP hS ⊢
  generalize locs1 = locs at hS ⊢
  refine lv_aload_n hx hb d_R_mount_7 rfl (lv_at hl 0 rfl) ?_
  have hSz := hS.1
  refine va_callv (va_runV (C := R_R) (As := []) (rest := []) ⟨hx, hb, hml, hown, hts⟩ (c_R_forgetReadings l dC dI ad cd H.size w wr fl (nI 0) (-1) lw rot vb (nI 0) (nI 0) live row (-1) (nI 0) (nI 0) (nI 0) bts (nI 0) act (nI 0) (nI 0)  ) (cwV 0 hts (g_V t_148 t_150 s_0 t_1 t_151) rfl rfl rfl (by decide +kernel) ⟨by decide, by decide⟩) (xP_v hP hK hD 0 rfl rfl) rfl rfl hl.1 rfl (lv_room (Nat.le_of_ble_eq_true rfl)) d_R_mount_8 ⟨Nat.le_refl _, Nat.le_refl _⟩) hS (fun q _ h => xA_up hS.1 q h) (fun q h => xA_up hS.1 q h) (fun u8 t H1 locs1 ht hvm q8 hB hz1 hk1 hS => ?_)
  obtain ⟨hP1, hK1, hD1⟩ := hB
  rw [ht] at hP1
  have hD : va_D (xA 15 ad s.heap.size) (xw ad cd w wr fl (nI 0) (-1) lw rot vb (nI 0) (nI 0) live row (-1) (nI 0) (nI 0) (nI 0) bts (nI 0) act (nI 0) (nI 0)) := hD1.weaken (fun _ q _ h => xA_up hSz _ h)
  have hP : va_P (dC, dI) vwCl (xw ad cd w wr fl (nI 0) (-1) lw rot vb (nI 0) (nI 0) live row (-1) (nI 0) (nI 0) (nI 0) bts (nI 0) act (nI 0) (nI 0)) H1 := hP1
  generalize H1 = H at hP hS ⊢
  generalize locs1 = locs at hS ⊢
  refine lv_aload_n hx hb d_R_mount_11 rfl (lv_at hl 0 rfl) ?_
  refine va_get (D := (dC, dI)) (ci := 4) (v := .ref (ad 1)) (C := R_R) (T := F_R) (N := 7) hx hb hts (fun w h => List.mem_cons_of_mem _ (in_R w h)) hown hK hP 0 rfl rfl 0 (by decide) (hts (.fieldLink R_R 12 R_R "store" "LWeighRecorder$Store;") (List.mem_cons_of_mem _ t_114)) (fun _ h9 => h9) rfl d_R_mount_12 ?_
  refine lv_aload_n hx hb d_R_mount_15 rfl (lv_at hl 0 rfl) ?_
  refine va_get (D := (dC, dI)) (ci := 4) (v := .ref (ad 3)) (C := R_R) (T := F_R) (N := 7) hx hb hts (fun w h => List.mem_cons_of_mem _ (in_R w h)) hown hK hP 0 rfl rfl 2 (by decide) (hts (.fieldLink R_R 26 R_R "log" "LWeighRecorder$Log;") (List.mem_cons_of_mem _ t_116)) (fun _ h9 => h9) rfl d_R_mount_16 ?_
  have hSz := hS.1
  refine va_callv (va_runV (C := R_S) (As := [.ref (ad 3)]) (rest := []) ⟨hx, hb, hml, hown, hts⟩ (c_S_restore_f l dC dI ad cd H.size w wr fl (nI 0) (-1) lw rot vb (nI 0) (nI 0) live row (-1) (nI 0) (nI 0) (nI 0) bts (nI 0) act (nI 0) (nI 0)  (by first | omega | rfl | assumption | decide)) (cwV 1 hts (g_V t_152 t_153 t_154 t_2 t_155) rfl rfl rfl (by decide +kernel) ⟨by decide, by decide⟩) (xP_v hP hK hD 1 rfl rfl) rfl rfl hl.1 rfl (lv_room (Nat.le_of_ble_eq_true rfl)) d_R_mount_19 ⟨Nat.le_refl _, Nat.le_refl _⟩) hS (fun q _ h => xA_up hS.1 q h) (fun q h => xA_up hS.1 q h) (fun u19 t H1 locs1 ht hvm q19 hB hz1 hk1 hS => ?_)
  obtain ⟨hP1, hK1, hD1⟩ := hB
  rw [ht] at hP1
  have hD : va_D (xA 15 ad s.heap.size) (xw ad cd w wr fl (nI 0) (-1) lw rot vb (nI 0) (nI 0) u19 row (-1) (nI 0) (nI 0) (nI 0) bts (nI 0) act (nI 0) (nI 0)) := hD1.weaken (fun _ q _ h => xA_up hSz _ h)
  have hP : va_P (dC, dI) vwCl (xw ad cd w wr fl (nI 0) (-1) lw rot vb (nI 0) (nI 0) u19 row (-1) (nI 0) (nI 0) (nI 0) bts (nI 0) act (nI 0) (nI 0)) H1 := hP1
  generalize H1 = H at hP hS ⊢
  generalize locs1 = locs at hS ⊢
  refine lv_aload_n hx hb d_R_mount_22 rfl (lv_at hl 0 rfl) ?_
  refine va_get (D := (dC, dI)) (ci := 4) (v := .ref (ad 2)) (C := R_R) (T := F_R) (N := 7) hx hb hts (fun w h => List.mem_cons_of_mem _ (in_R w h)) hown hK hP 0 rfl rfl 1 (by decide) (hts (.fieldLink R_R 20 R_R "chip" "LWeighRecorder$Chip;") (List.mem_cons_of_mem _ t_115)) (fun _ h9 => h9) rfl d_R_mount_23 ?_
  have hSz := hS.1
  refine va_callv (va_runV (C := R_C) (As := []) (rest := []) ⟨hx, hb, hml, hown, hts⟩ (c_C_turnOn l dC dI ad cd H.size w wr fl (nI 0) (-1) lw rot vb (nI 0) (nI 0) u19 row (-1) (nI 0) (nI 0) (nI 0) bts (nI 0) act (nI 0) (nI 0)  ) (cwV 0 hts (g_V t_213 t_214 t_215 t_3 t_216) rfl rfl rfl (by decide +kernel) ⟨by decide, by decide⟩) (xP_v hP hK hD 2 rfl rfl) rfl rfl hl.1 rfl (lv_room (Nat.le_of_ble_eq_true rfl)) d_R_mount_26 ⟨Nat.le_refl _, Nat.le_refl _⟩) hS (fun q _ h => xA_up hS.1 q h) (fun q h => xA_up hS.1 q h) (fun u26 t H1 locs1 ht hvm q26 hB hz1 hk1 hS => ?_)
  obtain ⟨hP1, hK1, hD1⟩ := hB
  rw [ht] at hP1
  have hD : va_D (xA 15 ad s.heap.size) (xw ad cd w wr fl (nI 1) (-1) lw rot vb (nI 0) (nI 0) u19 row (-1) (nI 0) (nI 0) (nI 0) bts (nI 0) act (nI 0) (nI 0)) := hD1.weaken (fun _ q _ h => xA_up hSz _ h)
  have hP : va_P (dC, dI) vwCl (xw ad cd w wr fl (nI 1) (-1) lw rot vb (nI 0) (nI 0) u19 row (-1) (nI 0) (nI 0) (nI 0) bts (nI 0) act (nI 0) (nI 0)) H1 := hP1
  generalize H1 = H at hP hS ⊢
  generalize locs1 = locs at hS ⊢
  refine lv_aload_n hx hb d_R_mount_29 rfl (lv_at hl 0 rfl) ?_
  refine va_get (D := (dC, dI)) (ci := 4) (v := .ref (ad 3)) (C := R_R) (T := F_R) (N := 7) hx hb hts (fun w h => List.mem_cons_of_mem _ (in_R w h)) hown hK hP 0 rfl rfl 2 (by decide) (hts (.fieldLink R_R 26 R_R "log" "LWeighRecorder$Log;") (List.mem_cons_of_mem _ t_116)) (fun _ h9 => h9) rfl d_R_mount_30 ?_
  refine vp_callSi (va_runV (C := R_G) (As := []) (rest := []) ⟨hx, hb, hml, hown, hts⟩ (c_G_ticketCount l dC dI ad cd w wr fl (nI 1) (-1) lw rot vb (nI 0) (nI 0) u19 row (-1) (nI 0) (nI 0) (nI 0) bts (nI 0) act (nI 0) (nI 0)  ) (cwV 0 hts (g_V t_217 t_218 t_219 t_4 t_220) rfl rfl rfl (by decide +kernel) ⟨by decide, by decide⟩) (xR_v hP hK 3 rfl rfl) rfl rfl hl.1 rfl (lv_room (Nat.le_of_ble_eq_true rfl)) d_R_mount_33 ⟨Nat.le_refl _, Nat.le_refl _⟩).run (fun r33 q33 => ?_)
  subst q33
  exact W.iret (v := nI 0) hx hb hr (fun t ht hW => ⟨⟨nI 0, u19, rfl, by first | rfl | trivial | omega, ⟨by rw [ht]; exact hP, va_K.moved hW.alike hK, hD⟩⟩, hS.F ht⟩) hS.2.2 d_R_mount_36
end
section
set_option maxHeartbeats 4000000 in
set_option maxRecDepth 100000 in
theorem c_M_thrown (l : Launch) (dC : Nat → ClassId) (dI : Nat → Nat → Nat) (am cm : Nat → Nat) (th : Int32) (mw mwr mfl mact : Nat → Int32) (on cut mrec : Int32) (mlog mlive had : Nat → Int32) (mser mcur mrd mwt worn : Int32) (pg : Nat → Int32) (pla sou fou : Int32)  : Met l y_M_thrown w_M_thrown ({ frames := 0, cells := 0, slots := 0, locals := 0 }) (xR (dC, dI) vwCl (mt cm) (mw_ am cm th mw mwr mfl mact on cut mrec mlog mlive had mser mcur mrd mwt worn pg pla sou fou) [.ref (am 0)]) (vp_Si (fun r => r = th)) 0 0 (fun _ => False) := by
  refine Met.ofW (cc := b_M_thrown) (maxL := 1) (ret := (some (.int))) (by decide) rfl ?_
  intro P e s m args below meth c0 s₁ B hml hv
  obtain ⟨rfl, hP, hK⟩ := hv
  have hx := B.exec
  have hb := B.bytes
  have hr := B.returns
  have hts := atoms_spec (ws := w_M_thrown) B.pre
  have hown : s.vm.findClass R_M = some m.cls := findClass_of_methodNamed B.named
  have hlocks := B.notSynchronized
  have hl := lv_entry ([.ref (am 0)]) (n := 1) (Nat.le_of_ble_eq_true rfl)
  rw [lg_entry_eq]
  generalize (lg_sl ([.ref (am 0)]) ++ List.replicate (1 - (lg_sl ([.ref (am 0)])).length) Slot.unset).toArray = ls at hl ⊢
  have hl : lv_has ls 1 [(0, .ref (am 0))] := hl
  refine lv_aload_n hx hb d_M_thrown_0 rfl (lv_at hl 0 rfl) ?_
  refine va_get (D := (dC, dI)) (ci := 5) (v := .int th) (C := R_M) (T := F_M) (N := 20) hx hb hts (fun w h => List.mem_cons_of_mem _ (in_M w h)) hown hK hP 0 rfl rfl 0 (by decide) (hts (.fieldLink R_M 49 R_M "thrown" "I") (List.mem_cons_of_mem _ t_712)) (fun _ h9 => h9) rfl d_M_thrown_1 ?_
  exact W.iret (v := th) hx hb hr (fun t ht hW => ⟨th, rfl, by first | rfl | trivial | omega, ht⟩) (fun q hq => by cases hq) d_M_thrown_4
set_option maxHeartbeats 4000000 in
set_option maxRecDepth 100000 in
theorem c_M_isIn (l : Launch) (dC : Nat → ClassId) (dI : Nat → Nat → Nat)  (v lo hi : Int32) : Met l y_M_isIn w_M_isIn ({ frames := 0, cells := 0, slots := 0, locals := 0 }) (xR (dC, dI) vwCl [] [] [.int v, .int lo, .int hi]) (vp_Si (fun r => (r = 1 ∧ (lo ≤ v ∧ v ≤ hi)) ∨ (r = 0 ∧ ¬ (lo ≤ v ∧ v ≤ hi)))) 0 0 (fun _ => False) := by
  refine Met.ofW (cc := b_M_isIn) (maxL := 3) (ret := (some (.boolean))) (by decide) rfl ?_
  intro P e s m args below meth c0 s₁ B hml hv
  obtain ⟨rfl, hP, hK⟩ := hv
  have hx := B.exec
  have hb := B.bytes
  have hr := B.returns
  have hts := atoms_spec (ws := w_M_isIn) B.pre
  have hown : s.vm.findClass R_M = some m.cls := findClass_of_methodNamed B.named
  have hlocks := B.notSynchronized
  have hl := lv_entry ([.int v, .int lo, .int hi]) (n := 3) (Nat.le_of_ble_eq_true rfl)
  rw [lg_entry_eq]
  generalize (lg_sl ([.int v, .int lo, .int hi]) ++ List.replicate (3 - (lg_sl ([.int v, .int lo, .int hi])).length) Slot.unset).toArray = ls at hl ⊢
  have hl : lv_has ls 3 [(0, .int v), (1, .int lo), (2, .int hi)] := hl
  refine lv_iload_n hx hb d_M_isIn_0 rfl (lv_at hl 0 rfl) ?_
  refine lv_iload_n hx hb d_M_isIn_1 rfl (lv_at hl 1 rfl) ?_
  refine lv_icmp_lt (tgt := 14) hx hb d_M_isIn_2 (by decide) (fun c2 => ?_) (fun c2 => ?_)
  ·
    refine lv_iconst (v := 0) hx hb d_M_isIn_14 (by decide) ?_
    exact W.zret (v := 0) hx hb hr (by first | rfl | decide | assumption) (fun t ht hW => ⟨0, rfl, Or.inr ⟨rfl, fun z => by first | exact absurd z.1 (Int32.not_le.mpr c2) | exact absurd z.2 (Int32.not_le.mpr c7)⟩, ht⟩) (fun q hq => by cases hq) d_M_isIn_15
  ·
    refine lv_iload_n hx hb d_M_isIn_5 rfl (lv_at hl 0 rfl) ?_
    refine lv_iload_n hx hb d_M_isIn_6 rfl (lv_at hl 2 rfl) ?_
    refine lv_icmp_gt (tgt := 14) hx hb d_M_isIn_7 (by decide) (fun c7 => ?_) (fun c7 => ?_)
    ·
      refine lv_iconst (v := 0) hx hb d_M_isIn_14 (by decide) ?_
      exact W.zret (v := 0) hx hb hr (by first | rfl | decide | assumption) (fun t ht hW => ⟨0, rfl, Or.inr ⟨rfl, fun z => by first | exact absurd z.1 (Int32.not_le.mpr c2) | exact absurd z.2 (Int32.not_le.mpr c7)⟩, ht⟩) (fun q hq => by cases hq) d_M_isIn_15
    ·
      refine lv_iconst (v := 1) hx hb d_M_isIn_10 (by decide) ?_
      refine lv_goto (tgt := 15) hx hb d_M_isIn_11 (by decide) ?_
      exact W.zret (v := 1) hx hb hr (by first | rfl | decide | assumption) (fun t ht hW => ⟨1, rfl, Or.inl ⟨rfl, Int32.not_lt.mp c2, Int32.not_lt.mp c7⟩, ht⟩) (fun q hq => by cases hq) d_M_isIn_15
set_option maxHeartbeats 4000000 in
set_option maxRecDepth 100000 in
theorem c_R_isWithin (l : Launch) (dC : Nat → ClassId) (dI : Nat → Nat → Nat)  (v lo hi : Int32) : Met l y_R_isWithin w_R_isWithin ({ frames := 0, cells := 0, slots := 0, locals := 0 }) (xR (dC, dI) vwCl [] [] [.int v, .int lo, .int hi]) (vp_Si (fun r => (r = 1 ∧ (lo ≤ v ∧ v ≤ hi)) ∨ (r = 0 ∧ ¬ (lo ≤ v ∧ v ≤ hi)))) 0 0 (fun _ => False) := by
  refine Met.ofW (cc := b_R_isWithin) (maxL := 3) (ret := (some (.boolean))) (by decide) rfl ?_
  intro P e s m args below meth c0 s₁ B hml hv
  obtain ⟨rfl, hP, hK⟩ := hv
  have hx := B.exec
  have hb := B.bytes
  have hr := B.returns
  have hts := atoms_spec (ws := w_R_isWithin) B.pre
  have hown : s.vm.findClass R_R = some m.cls := findClass_of_methodNamed B.named
  have hlocks := B.notSynchronized
  have hl := lv_entry ([.int v, .int lo, .int hi]) (n := 3) (Nat.le_of_ble_eq_true rfl)
  rw [lg_entry_eq]
  generalize (lg_sl ([.int v, .int lo, .int hi]) ++ List.replicate (3 - (lg_sl ([.int v, .int lo, .int hi])).length) Slot.unset).toArray = ls at hl ⊢
  have hl : lv_has ls 3 [(0, .int v), (1, .int lo), (2, .int hi)] := hl
  refine lv_iload_n hx hb d_R_isWithin_0 rfl (lv_at hl 0 rfl) ?_
  refine lv_iload_n hx hb d_R_isWithin_1 rfl (lv_at hl 1 rfl) ?_
  refine lv_icmp_lt (tgt := 14) hx hb d_R_isWithin_2 (by decide) (fun c2 => ?_) (fun c2 => ?_)
  ·
    refine lv_iconst (v := 0) hx hb d_R_isWithin_14 (by decide) ?_
    exact W.zret (v := 0) hx hb hr (by first | rfl | decide | assumption) (fun t ht hW => ⟨0, rfl, Or.inr ⟨rfl, fun z => by first | exact absurd z.1 (Int32.not_le.mpr c2) | exact absurd z.2 (Int32.not_le.mpr c7)⟩, ht⟩) (fun q hq => by cases hq) d_R_isWithin_15
  ·
    refine lv_iload_n hx hb d_R_isWithin_5 rfl (lv_at hl 0 rfl) ?_
    refine lv_iload_n hx hb d_R_isWithin_6 rfl (lv_at hl 2 rfl) ?_
    refine lv_icmp_gt (tgt := 14) hx hb d_R_isWithin_7 (by decide) (fun c7 => ?_) (fun c7 => ?_)
    ·
      refine lv_iconst (v := 0) hx hb d_R_isWithin_14 (by decide) ?_
      exact W.zret (v := 0) hx hb hr (by first | rfl | decide | assumption) (fun t ht hW => ⟨0, rfl, Or.inr ⟨rfl, fun z => by first | exact absurd z.1 (Int32.not_le.mpr c2) | exact absurd z.2 (Int32.not_le.mpr c7)⟩, ht⟩) (fun q hq => by cases hq) d_R_isWithin_15
    ·
      refine lv_iconst (v := 1) hx hb d_R_isWithin_10 (by decide) ?_
      refine lv_goto (tgt := 15) hx hb d_R_isWithin_11 (by decide) ?_
      exact W.zret (v := 1) hx hb hr (by first | rfl | decide | assumption) (fun t ht hW => ⟨1, rfl, Or.inl ⟨rfl, Int32.not_lt.mp c2, Int32.not_lt.mp c7⟩, ht⟩) (fun q hq => by cases hq) d_R_isWithin_15
set_option maxHeartbeats 4000000 in
set_option maxRecDepth 100000 in
theorem c_M_fails_0 (l : Launch) (dC : Nat → ClassId) (dI : Nat → Nat → Nat) (am cm : Nat → Nat) (sz : Nat) (th : Int32) (mw mwr mfl mact : Nat → Int32) (on cut mrec : Int32) (mlog mlive had : Nat → Int32) (mser mcur mrd mwt worn : Int32) (pg : Nat → Int32) (pla sou fou : Int32) (cod : Int32) : Met l y_M_fails w_M_fails ({ frames := 0, cells := 0, slots := 0, locals := 0 }) (xP (dC, dI) vwCl (mt cm) (mw_ am cm th mw mwr mfl mact on cut mrec mlog mlive had mser mcur mrd mwt worn pg pla sou fou) sz [.ref (am 0), .int cod, .int (nI 0)]) (va_Qi (fun r (u : Unit) => r = nI 0) (fun (u : Unit) (t : State) => xB (dC, dI) vwCl (mt cm) (xA 9 am sz) (mw_ am cm (nI 0) mw mwr mfl mact on cut mrec mlog mlive had mser mcur mrd mwt worn pg pla sou fou) t) (xA 9 am sz)) 0 0 (xA 9 am sz) := by
  refine Met.ofW (cc := b_M_fails) (maxL := 3) (ret := (some (.boolean))) (by decide) rfl ?_
  intro P e s m args below meth c0 s₁ B hml hv
  obtain ⟨rfl, hsz, hP, hK, hD0⟩ := hv
  have hx := B.exec
  have hb := B.bytes
  have hr := B.returns
  have hts := atoms_spec (ws := w_M_fails) B.pre
  have hown : s.vm.findClass R_M = some m.cls := findClass_of_methodNamed B.named
  have hlocks := B.notSynchronized
  subst hsz
  have hD := mw_D (sz := s.heap.size) hD0
  have hS : va_S (xA 9 am s.heap.size) s.heap s.heap [] := va_S.rf
  have hl := lv_entry ([.ref (am 0), .int cod, .int (nI 0)]) (n := 3) (Nat.le_of_ble_eq_true rfl)
  rw [lg_entry_eq]
  generalize (lg_sl ([.ref (am 0), .int cod, .int (nI 0)]) ++ List.replicate (3 - (lg_sl ([.ref (am 0), .int cod, .int (nI 0)])).length) Slot.unset).toArray = ls at hl ⊢
  have hl : lv_has ls 3 [(0, .ref (am 0)), (1, .int cod), (2, .int (nI 0))] := hl
  refine lv_aload_n hx hb d_M_fails_0 rfl (lv_at hl 0 rfl) ?_
  refine lv_iload_n hx hb d_M_fails_1 rfl (lv_at hl 2 rfl) ?_
  refine lv_if_eq (tgt := 9) hx hb d_M_fails_2 (by decide) (fun c2 => ?_) (fun c2 => ?_)
  ·
    have c2 := cz_eq_t (by omega) c2
    refine lv_iconst (v := nI 0) hx hb d_M_fails_9 (by decide) ?_
    refine va_put (D := (dC, dI)) (ci := 5) (v := .int (nI 0)) (ty := .int) (C := R_M) (T := F_M) (N := 20) hx hb hts (fun w h => List.mem_cons_of_mem _ (in_M w h)) t_M ok_M nm_M hown hK hP hD hS 0 rfl rfl 0 (by decide) (hts (.fieldLink R_M 49 R_M "thrown" "I") (List.mem_cons_of_mem _ t_712)) (fun _ h9 => h9) rfl (by decide +kernel) rfl rfl (Nat.le_of_ble_eq_true rfl) d_M_fails_10 (fun H locs hP hD hS => ?_)
    have hP : va_P (dC, dI) vwCl (mw_ am cm (nI 0) mw mwr mfl mact on cut mrec mlog mlive had mser mcur mrd mwt worn pg pla sou fou) H := hP
    have hD : va_D (xA 9 am s.heap.size) (mw_ am cm (nI 0) mw mwr mfl mact on cut mrec mlog mlive had mser mcur mrd mwt worn pg pla sou fou) := hD
    refine lv_iload_n hx hb d_M_fails_13 rfl (lv_at hl 2 rfl) ?_
    exact W.zret (v := nI 0) hx hb hr (by first | rfl | decide | assumption) (fun t ht hW => ⟨⟨nI 0, (), rfl, by first | rfl | trivial | omega, ⟨by rw [ht]; exact hP, va_K.moved hW.alike hK, hD⟩⟩, hS.F ht⟩) hS.2.2 d_M_fails_14
  ·
    exact absurd c2 (by decide)
set_option maxHeartbeats 4000000 in
set_option maxRecDepth 100000 in
theorem c_M_fails_1 (l : Launch) (dC : Nat → ClassId) (dI : Nat → Nat → Nat) (am cm : Nat → Nat) (sz : Nat) (th : Int32) (mw mwr mfl mact : Nat → Int32) (on cut mrec : Int32) (mlog mlive had : Nat → Int32) (mser mcur mrd mwt worn : Int32) (pg : Nat → Int32) (pla sou fou : Int32) (cod : Int32) : Met l y_M_fails w_M_fails ({ frames := 0, cells := 0, slots := 0, locals := 0 }) (xP (dC, dI) vwCl (mt cm) (mw_ am cm th mw mwr mfl mact on cut mrec mlog mlive had mser mcur mrd mwt worn pg pla sou fou) sz [.ref (am 0), .int cod, .int (nI 1)]) (va_Qi (fun r (u : Unit) => r = nI 1) (fun (u : Unit) (t : State) => xB (dC, dI) vwCl (mt cm) (xA 9 am sz) (mw_ am cm cod mw mwr mfl mact on cut mrec mlog mlive had mser mcur mrd mwt worn pg pla sou fou) t) (xA 9 am sz)) 0 0 (xA 9 am sz) := by
  refine Met.ofW (cc := b_M_fails) (maxL := 3) (ret := (some (.boolean))) (by decide) rfl ?_
  intro P e s m args below meth c0 s₁ B hml hv
  obtain ⟨rfl, hsz, hP, hK, hD0⟩ := hv
  have hx := B.exec
  have hb := B.bytes
  have hr := B.returns
  have hts := atoms_spec (ws := w_M_fails) B.pre
  have hown : s.vm.findClass R_M = some m.cls := findClass_of_methodNamed B.named
  have hlocks := B.notSynchronized
  subst hsz
  have hD := mw_D (sz := s.heap.size) hD0
  have hS : va_S (xA 9 am s.heap.size) s.heap s.heap [] := va_S.rf
  have hl := lv_entry ([.ref (am 0), .int cod, .int (nI 1)]) (n := 3) (Nat.le_of_ble_eq_true rfl)
  rw [lg_entry_eq]
  generalize (lg_sl ([.ref (am 0), .int cod, .int (nI 1)]) ++ List.replicate (3 - (lg_sl ([.ref (am 0), .int cod, .int (nI 1)])).length) Slot.unset).toArray = ls at hl ⊢
  have hl : lv_has ls 3 [(0, .ref (am 0)), (1, .int cod), (2, .int (nI 1))] := hl
  refine lv_aload_n hx hb d_M_fails_0 rfl (lv_at hl 0 rfl) ?_
  refine lv_iload_n hx hb d_M_fails_1 rfl (lv_at hl 2 rfl) ?_
  refine lv_if_eq (tgt := 9) hx hb d_M_fails_2 (by decide) (fun c2 => ?_) (fun c2 => ?_)
  ·
    exact absurd c2 (by decide)
  ·
    have c2 := cz_eq_f (by omega) c2
    refine lv_iload_n hx hb d_M_fails_5 rfl (lv_at hl 1 rfl) ?_
    refine lv_goto (tgt := 10) hx hb d_M_fails_6 (by decide) ?_
    refine va_put (D := (dC, dI)) (ci := 5) (v := .int cod) (ty := .int) (C := R_M) (T := F_M) (N := 20) hx hb hts (fun w h => List.mem_cons_of_mem _ (in_M w h)) t_M ok_M nm_M hown hK hP hD hS 0 rfl rfl 0 (by decide) (hts (.fieldLink R_M 49 R_M "thrown" "I") (List.mem_cons_of_mem _ t_712)) (fun _ h9 => h9) rfl (by decide +kernel) rfl rfl (Nat.le_of_ble_eq_true rfl) d_M_fails_10 (fun H locs hP hD hS => ?_)
    have hP : va_P (dC, dI) vwCl (mw_ am cm cod mw mwr mfl mact on cut mrec mlog mlive had mser mcur mrd mwt worn pg pla sou fou) H := hP
    have hD : va_D (xA 9 am s.heap.size) (mw_ am cm cod mw mwr mfl mact on cut mrec mlog mlive had mser mcur mrd mwt worn pg pla sou fou) := hD
    refine lv_iload_n hx hb d_M_fails_13 rfl (lv_at hl 2 rfl) ?_
    exact W.zret (v := nI 1) hx hb hr (by first | rfl | decide | assumption) (fun t ht hW => ⟨⟨nI 1, (), rfl, by first | rfl | trivial | omega, ⟨by rw [ht]; exact hP, va_K.moved hW.alike hK, hD⟩⟩, hS.F ht⟩) hS.2.2 d_M_fails_14
set_option maxHeartbeats 4000000 in
set_option maxRecDepth 100000 in
theorem c_M_forget (l : Launch) (dC : Nat → ClassId) (dI : Nat → Nat → Nat) (am cm : Nat → Nat) (sz : Nat) (th : Int32) (mw mwr mfl mact : Nat → Int32) (on cut mrec : Int32) (mlog mlive had : Nat → Int32) (mser mcur mrd mwt worn : Int32) (pg : Nat → Int32) (pla sou fou : Int32)  : Met l y_M_forget w_M_forget ({ frames := 0, cells := 0, slots := 0, locals := 0 }) (xP (dC, dI) vwCl (mt cm) (mw_ am cm th mw mwr mfl mact on cut mrec mlog mlive had mser mcur mrd mwt worn pg pla sou fou) sz [.ref (am 0)]) (va_Qv (fun (u : Nat → Int32) => ∀ i, i < 16 → u i = -1) (fun (u : Nat → Int32) (t : State) => xB (dC, dI) vwCl (mt cm) (xA 9 am sz) (mw_ am cm th mw mwr mfl mact on (-1) (nI 0) mlog u had (nI 0) (-1) (nI 0) (nI 0) (nI 0) pg pla sou fou) t) (xA 9 am sz)) 0 0 (xA 9 am sz) := by
  refine Met.ofW (cc := b_M_forget) (maxL := 2) (ret := none) (by decide) rfl ?_
  intro P e s m args below meth c0 s₁ B hml hv
  obtain ⟨rfl, hsz, hP, hK, hD0⟩ := hv
  have hx := B.exec
  have hb := B.bytes
  have hr := B.returns
  have hts := atoms_spec (ws := w_M_forget) B.pre
  have hown : s.vm.findClass R_M = some m.cls := findClass_of_methodNamed B.named
  have hlocks := B.notSynchronized
  subst hsz
  have hD := mw_D (sz := s.heap.size) hD0
  have hS : va_S (xA 9 am s.heap.size) s.heap s.heap [] := va_S.rf
  have hl := lv_entry ([.ref (am 0)]) (n := 2) (Nat.le_of_ble_eq_true rfl)
  rw [lg_entry_eq]
  generalize (lg_sl ([.ref (am 0)]) ++ List.replicate (2 - (lg_sl ([.ref (am 0)])).length) Slot.unset).toArray = ls at hl ⊢
  have hl : lv_has ls 2 [(0, .ref (am 0))] := hl
  refine lv_aload_n hx hb d_M_forget_0 rfl (lv_at hl 0 rfl) ?_
  refine lv_iconst (v := nI 0) hx hb d_M_forget_1 (by decide) ?_
  refine va_put (D := (dC, dI)) (ci := 5) (v := .int (nI 0)) (ty := .int) (C := R_M) (T := F_M) (N := 20) hx hb hts (fun w h => List.mem_cons_of_mem _ (in_M w h)) t_M ok_M nm_M hown hK hP hD hS 0 rfl rfl 7 (by decide) (hts (.fieldLink R_M 52 R_M "records" "I") (List.mem_cons_of_mem _ t_719)) (fun _ h9 => h9) rfl (by decide +kernel) rfl rfl (Nat.le_of_ble_eq_true rfl) d_M_forget_2 (fun H locs hP hD hS => ?_)
  have hP : va_P (dC, dI) vwCl (mw_ am cm th mw mwr mfl mact on cut (nI 0) mlog mlive had mser mcur mrd mwt worn pg pla sou fou) H := hP
  have hD : va_D (xA 9 am s.heap.size) (mw_ am cm th mw mwr mfl mact on cut (nI 0) mlog mlive had mser mcur mrd mwt worn pg pla sou fou) := hD
  refine lv_iconst (v := nI 0) hx hb d_M_forget_5 (by decide) ?_
  refine lv_istore_n hx hb d_M_forget_6 rfl hl (by decide) rfl (fun ls hl => ?_)
  have hl : lv_has ls 2 [(1, .int (nI 0)), (0, .ref (am 0))] := hl
  have lp7 : ∀ (n : Nat) (k : Nat) (lv : Nat → Int32) (H : Heap) (locs : List Loc) (ls : Array Slot), (16 - k) < n → (k ≤ 16) → (∀ i, i < k → lv i = -1) → lv_has ls 2 [(0, .ref (am 0)), (1, .int (nI k))] → va_P (dC, dI) vwCl (mw_ am cm th mw mwr mfl mact on cut (nI 0) mlog lv had mser mcur mrd mwt worn pg pla sou fou) H → va_D (xA 9 am s.heap.size) (mw_ am cm th mw mwr mfl mact on cut (nI 0) mlog lv had mser mcur mrd mwt worn pg pla sou fou) → va_S (xA 9 am s.heap.size) s.heap H locs → W P l e (headSpec w_M_forget ({ frames := 0, cells := 0, slots := 0, locals := 0 })).room s m (([.ref (am 0)] : List Value).toArray) below meth c0 H locs 0 0 (MQ below (va_Qv (fun (u : Nat → Int32) => ∀ i, i < 16 → u i = -1) (fun (u : Nat → Int32) (t : State) => xB (dC, dI) vwCl (mt cm) (xA 9 am s.heap.size) (mw_ am cm th mw mwr mfl mact on (-1) (nI 0) mlog u had (nI 0) (-1) (nI 0) (nI 0) (nI 0) pg pla sou fou) t) (xA 9 am s.heap.size)) (([.ref (am 0)] : List Value).toArray) s 0 0 (xA 9 am s.heap.size)) (F0 m 7 ls []) := by
    intro n
    induction n with
    | zero => intro k lv H locs ls hm; intros; omega
    | succ n ih7 =>
      intro k lv H locs ls hm hk hf hl hP hD hS
      refine lv_iload_n hx hb d_M_forget_7 rfl (lv_at hl 1 rfl) ?_
      refine lv_bipush (v := nI 16) hx hb d_M_forget_8 (by decide) ?_
      refine lv_icmp_ge (tgt := 26) hx hb d_M_forget_10 (by decide) (fun c10 => ?_) (fun c10 => ?_)
      ·
        have c10 := cd_ge_t (by omega) (by omega) c10
        refine lv_aload_n hx hb d_M_forget_26 rfl (lv_at hl 0 rfl) ?_
        refine lv_iconst (v := nI 0) hx hb d_M_forget_27 (by decide) ?_
        refine va_put (D := (dC, dI)) (ci := 5) (v := .int (nI 0)) (ty := .int) (C := R_M) (T := F_M) (N := 20) hx hb hts (fun w h => List.mem_cons_of_mem _ (in_M w h)) t_M ok_M nm_M hown hK hP hD hS 0 rfl rfl 11 (by decide) (hts (.fieldLink R_M 55 R_M "serial" "I") (List.mem_cons_of_mem _ t_723)) (fun _ h9 => h9) rfl (by decide +kernel) rfl rfl (Nat.le_of_ble_eq_true rfl) d_M_forget_28 (fun H locs hP hD hS => ?_)
        have hP : va_P (dC, dI) vwCl (mw_ am cm th mw mwr mfl mact on cut (nI 0) mlog lv had (nI 0) mcur mrd mwt worn pg pla sou fou) H := hP
        have hD : va_D (xA 9 am s.heap.size) (mw_ am cm th mw mwr mfl mact on cut (nI 0) mlog lv had (nI 0) mcur mrd mwt worn pg pla sou fou) := hD
        refine lv_aload_n hx hb d_M_forget_31 rfl (lv_at hl 0 rfl) ?_
        refine lv_iconst (v := (-1)) hx hb d_M_forget_32 (by decide) ?_
        refine va_put (D := (dC, dI)) (ci := 5) (v := .int (-1)) (ty := .int) (C := R_M) (T := F_M) (N := 20) hx hb hts (fun w h => List.mem_cons_of_mem _ (in_M w h)) t_M ok_M nm_M hown hK hP hD hS 0 rfl rfl 12 (by decide) (hts (.fieldLink R_M 40 R_M "cursor" "I") (List.mem_cons_of_mem _ t_724)) (fun _ h9 => h9) rfl (by decide +kernel) rfl rfl (Nat.le_of_ble_eq_true rfl) d_M_forget_33 (fun H locs hP hD hS => ?_)
        have hP : va_P (dC, dI) vwCl (mw_ am cm th mw mwr mfl mact on cut (nI 0) mlog lv had (nI 0) (-1) mrd mwt worn pg pla sou fou) H := hP
        have hD : va_D (xA 9 am s.heap.size) (mw_ am cm th mw mwr mfl mact on cut (nI 0) mlog lv had (nI 0) (-1) mrd mwt worn pg pla sou fou) := hD
        refine lv_aload_n hx hb d_M_forget_36 rfl (lv_at hl 0 rfl) ?_
        refine lv_iconst (v := nI 0) hx hb d_M_forget_37 (by decide) ?_
        refine va_put (D := (dC, dI)) (ci := 5) (v := .int (nI 0)) (ty := .int) (C := R_M) (T := F_M) (N := 20) hx hb hts (fun w h => List.mem_cons_of_mem _ (in_M w h)) t_M ok_M nm_M hown hK hP hD hS 0 rfl rfl 13 (by decide) (hts (.fieldLink R_M 58 R_M "readings" "I") (List.mem_cons_of_mem _ t_725)) (fun _ h9 => h9) rfl (by decide +kernel) rfl rfl (Nat.le_of_ble_eq_true rfl) d_M_forget_38 (fun H locs hP hD hS => ?_)
        have hP : va_P (dC, dI) vwCl (mw_ am cm th mw mwr mfl mact on cut (nI 0) mlog lv had (nI 0) (-1) (nI 0) mwt worn pg pla sou fou) H := hP
        have hD : va_D (xA 9 am s.heap.size) (mw_ am cm th mw mwr mfl mact on cut (nI 0) mlog lv had (nI 0) (-1) (nI 0) mwt worn pg pla sou fou) := hD
        refine lv_aload_n hx hb d_M_forget_41 rfl (lv_at hl 0 rfl) ?_
        refine lv_iconst (v := nI 0) hx hb d_M_forget_42 (by decide) ?_
        refine va_put (D := (dC, dI)) (ci := 5) (v := .int (nI 0)) (ty := .int) (C := R_M) (T := F_M) (N := 20) hx hb hts (fun w h => List.mem_cons_of_mem _ (in_M w h)) t_M ok_M nm_M hown hK hP hD hS 0 rfl rfl 14 (by decide) (hts (.fieldLink R_M 61 R_M "weight" "I") (List.mem_cons_of_mem _ t_726)) (fun _ h9 => h9) rfl (by decide +kernel) rfl rfl (Nat.le_of_ble_eq_true rfl) d_M_forget_43 (fun H locs hP hD hS => ?_)
        have hP : va_P (dC, dI) vwCl (mw_ am cm th mw mwr mfl mact on cut (nI 0) mlog lv had (nI 0) (-1) (nI 0) (nI 0) worn pg pla sou fou) H := hP
        have hD : va_D (xA 9 am s.heap.size) (mw_ am cm th mw mwr mfl mact on cut (nI 0) mlog lv had (nI 0) (-1) (nI 0) (nI 0) worn pg pla sou fou) := hD
        refine lv_aload_n hx hb d_M_forget_46 rfl (lv_at hl 0 rfl) ?_
        refine lv_iconst (v := nI 0) hx hb d_M_forget_47 (by decide) ?_
        refine va_put (D := (dC, dI)) (ci := 5) (v := .int (nI 0)) (ty := .boolean) (C := R_M) (T := F_M) (N := 20) hx hb hts (fun w h => List.mem_cons_of_mem _ (in_M w h)) t_M ok_M nm_M hown hK hP hD hS 0 rfl rfl 15 (by decide) (hts (.fieldLink R_M 64 R_M "worn" "Z") (List.mem_cons_of_mem _ t_727)) (fun _ h9 => h9) rfl (by decide +kernel) (by first | rfl | decide | assumption) rfl (Nat.le_of_ble_eq_true rfl) d_M_forget_48 (fun H locs hP hD hS => ?_)
        have hP : va_P (dC, dI) vwCl (mw_ am cm th mw mwr mfl mact on cut (nI 0) mlog lv had (nI 0) (-1) (nI 0) (nI 0) (nI 0) pg pla sou fou) H := hP
        have hD : va_D (xA 9 am s.heap.size) (mw_ am cm th mw mwr mfl mact on cut (nI 0) mlog lv had (nI 0) (-1) (nI 0) (nI 0) (nI 0) pg pla sou fou) := hD
        refine lv_aload_n hx hb d_M_forget_51 rfl (lv_at hl 0 rfl) ?_
        refine lv_iconst (v := (-1)) hx hb d_M_forget_52 (by decide) ?_
        refine va_put (D := (dC, dI)) (ci := 5) (v := .int (-1)) (ty := .int) (C := R_M) (T := F_M) (N := 20) hx hb hts (fun w h => List.mem_cons_of_mem _ (in_M w h)) t_M ok_M nm_M hown hK hP hD hS 0 rfl rfl 6 (by decide) (hts (.fieldLink R_M 27 R_M "cut" "I") (List.mem_cons_of_mem _ t_718)) (fun _ h9 => h9) rfl (by decide +kernel) rfl rfl (Nat.le_of_ble_eq_true rfl) d_M_forget_53 (fun H locs hP hD hS => ?_)
        have hP : va_P (dC, dI) vwCl (mw_ am cm th mw mwr mfl mact on (-1) (nI 0) mlog lv had (nI 0) (-1) (nI 0) (nI 0) (nI 0) pg pla sou fou) H := hP
        have hD : va_D (xA 9 am s.heap.size) (mw_ am cm th mw mwr mfl mact on (-1) (nI 0) mlog lv had (nI 0) (-1) (nI 0) (nI 0) (nI 0) pg pla sou fou) := hD
        exact W.vret hx hb hr (fun t ht hW => ⟨⟨lv, rfl, fun i hi => hf i (by omega), ⟨by rw [ht]; exact hP, va_K.moved hW.alike hK, hD⟩⟩, hS.F ht⟩) hS.2.2 d_M_forget_56
      ·
        have c10 := cd_ge_f (by omega) (by omega) c10
        refine lv_aload_n hx hb d_M_forget_13 rfl (lv_at hl 0 rfl) ?_
        refine va_get (D := (dC, dI)) (ci := 5) (v := .ref (am 6)) (C := R_M) (T := F_M) (N := 20) hx hb hts (fun w h => List.mem_cons_of_mem _ (in_M w h)) hown hK hP 0 rfl rfl 9 (by decide) (hts (.fieldLink R_M 34 R_M "live" "[I") (List.mem_cons_of_mem _ t_721)) (fun _ h9 => h9) rfl d_M_forget_14 ?_
        refine lv_iload_n hx hb d_M_forget_17 rfl (lv_at hl 1 rfl) ?_
        refine lv_iconst (v := (-1)) hx hb d_M_forget_18 (by decide) ?_
        refine va_iast hx hb hK hP hD hS 6 5 rfl rfl (vp_in_nI (by omega) (by decide)) d_M_forget_19 (fun H locs hP hD hS => ?_)
        rw [nI_clamp (by omega)] at hP hD
        have hP : va_P (dC, dI) vwCl (mw_ am cm th mw mwr mfl mact on cut (nI 0) mlog (upd lv k (-1)) had mser mcur mrd mwt worn pg pla sou fou) H := hP
        have hD : va_D (xA 9 am s.heap.size) (mw_ am cm th mw mwr mfl mact on cut (nI 0) mlog (upd lv k (-1)) had mser mcur mrd mwt worn pg pla sou fou) := hD
        refine lv_iinc (k := 1) (v := nI (k + 1)) hx hb d_M_forget_20 hl rfl (nI_1 _) (by decide) rfl (fun ls hl => ?_)
        have hl : lv_has ls 2 [(1, .int (nI (k + 1))), (0, .ref (am 0))] := hl
        refine lv_goto (tgt := 7) hx hb d_M_forget_23 (by decide) ?_
        exact ih7 (k + 1) (upd lv k (-1)) H locs ls (by omega) (by omega) (upd_lt hf) (lv_sub hl [1, 0] rfl) hP hD hS
  exact lp7 _ 0 mlive H locs ls (Nat.lt_succ_self _) (by omega) (fun i hi => absurd hi (Nat.not_lt_zero i)) (lv_sub hl [1, 0] rfl) hP hD hS
set_option maxHeartbeats 4000000 in
set_option maxRecDepth 100000 in
theorem c_M_off (l : Launch) (dC : Nat → ClassId) (dI : Nat → Nat → Nat) (am cm : Nat → Nat) (sz : Nat) (th : Int32) (mw mwr mfl mact : Nat → Int32) (on cut mrec : Int32) (mlog mlive had : Nat → Int32) (mser mcur mrd mwt worn : Int32) (pg : Nat → Int32) (pla sou fou : Int32)  : Met l y_M_off w_M_off ({ frames := 1, cells := 0, slots := 0, locals := 21 }) (xP (dC, dI) vwCl (mt cm) (mw_ am cm th mw mwr mfl mact on cut mrec mlog mlive had mser mcur mrd mwt worn pg pla sou fou) sz [.ref (am 0)]) (va_Qv (fun (u : Nat → Int32) => ∀ i, i < 16 → u i = -1) (fun (u : Nat → Int32) (t : State) => xB (dC, dI) vwCl (mt cm) (xA 9 am sz) (mw_ am cm th mw mwr mfl mact (nI 0) (-1) (nI 0) mlog u had (nI 0) (-1) (nI 0) (nI 0) (nI 0) pg pla sou fou) t) (xA 9 am sz)) 0 0 (xA 9 am sz) := by
  refine Met.ofW (cc := b_M_off) (maxL := 1) (ret := none) (by decide) rfl ?_
  intro P e s m args below meth c0 s₁ B hml hv
  obtain ⟨rfl, hsz, hP, hK, hD0⟩ := hv
  have hx := B.exec
  have hb := B.bytes
  have hr := B.returns
  have hts := atoms_spec (ws := w_M_off) B.pre
  have hown : s.vm.findClass R_M = some m.cls := findClass_of_methodNamed B.named
  have hlocks := B.notSynchronized
  subst hsz
  have hD := mw_D (sz := s.heap.size) hD0
  have hS : va_S (xA 9 am s.heap.size) s.heap s.heap [] := va_S.rf
  have hl := lv_entry ([.ref (am 0)]) (n := 1) (Nat.le_of_ble_eq_true rfl)
  rw [lg_entry_eq]
  generalize (lg_sl ([.ref (am 0)]) ++ List.replicate (1 - (lg_sl ([.ref (am 0)])).length) Slot.unset).toArray = ls at hl ⊢
  have hl : lv_has ls 1 [(0, .ref (am 0))] := hl
  refine lv_aload_n hx hb d_M_off_0 rfl (lv_at hl 0 rfl) ?_
  refine lv_iconst (v := nI 0) hx hb d_M_off_1 (by decide) ?_
  refine va_put (D := (dC, dI)) (ci := 5) (v := .int (nI 0)) (ty := .boolean) (C := R_M) (T := F_M) (N := 20) hx hb hts (fun w h => List.mem_cons_of_mem _ (in_M w h)) t_M ok_M nm_M hown hK hP hD hS 0 rfl rfl 5 (by decide) (hts (.fieldLink R_M 23 R_M "on" "Z") (List.mem_cons_of_mem _ t_717)) (fun _ h9 => h9) rfl (by decide +kernel) (by first | rfl | decide | assumption) rfl (Nat.le_of_ble_eq_true rfl) d_M_off_2 (fun H locs hP hD hS => ?_)
  have hP : va_P (dC, dI) vwCl (mw_ am cm th mw mwr mfl mact (nI 0) cut mrec mlog mlive had mser mcur mrd mwt worn pg pla sou fou) H := hP
  have hD : va_D (xA 9 am s.heap.size) (mw_ am cm th mw mwr mfl mact (nI 0) cut mrec mlog mlive had mser mcur mrd mwt worn pg pla sou fou) := hD
  refine lv_aload_n hx hb d_M_off_5 rfl (lv_at hl 0 rfl) ?_
  have hSz := hS.1
  refine va_callv (va_runV (C := R_M) (As := []) (rest := []) ⟨hx, hb, hml, hown, hts⟩ (c_M_forget l dC dI am cm H.size th mw mwr mfl mact (nI 0) cut mrec mlog mlive had mser mcur mrd mwt worn pg pla sou fou  ) (cwV 0 hts (g_V t_708 t_710 s_21 t_6 t_711) rfl rfl rfl (by decide +kernel) ⟨by decide, by decide⟩) (xP_v hP hK hD 0 rfl rfl) rfl rfl hl.1 rfl (lv_room (Nat.le_of_ble_eq_true rfl)) d_M_off_6 ⟨Nat.le_refl _, Nat.le_refl _⟩) hS (fun q _ h => xA_up hS.1 q h) (fun q h => xA_up hS.1 q h) (fun u6 t H1 locs1 ht hvm q6 hB hz1 hk1 hS => ?_)
  obtain ⟨hP1, hK1, hD1⟩ := hB
  rw [ht] at hP1
  have hD : va_D (xA 9 am s.heap.size) (mw_ am cm th mw mwr mfl mact (nI 0) (-1) (nI 0) mlog u6 had (nI 0) (-1) (nI 0) (nI 0) (nI 0) pg pla sou fou) := hD1.weaken (fun _ q _ h => xA_up hSz _ h)
  have hP : va_P (dC, dI) vwCl (mw_ am cm th mw mwr mfl mact (nI 0) (-1) (nI 0) mlog u6 had (nI 0) (-1) (nI 0) (nI 0) (nI 0) pg pla sou fou) H1 := hP1
  generalize H1 = H at hP hS ⊢
  generalize locs1 = locs at hS ⊢
  exact W.vret hx hb hr (fun t ht hW => ⟨⟨u6, rfl, q6, ⟨by rw [ht]; exact hP, va_K.moved hW.alike hK, hD⟩⟩, hS.F ht⟩) hS.2.2 d_M_off_9
set_option maxHeartbeats 4000000 in
set_option maxRecDepth 100000 in
theorem c_M_isFree_f (l : Launch) (dC : Nat → ClassId) (dI : Nat → Nat → Nat) (am cm : Nat → Nat) (th : Int32) (mw mwr mfl mact : Nat → Int32) (on cut mrec : Int32) (mlog mlive had : Nat → Int32) (mser mcur mrd mwt worn : Int32) (pg : Nat → Int32) (pla sou fou : Int32) (pa : Nat) (hp : pa < 32) (hmw : ∀ i, i < 512 → mw i = -1) : Met l y_M_isFree w_M_isFree ({ frames := 0, cells := 0, slots := 0, locals := 0 }) (xR (dC, dI) vwCl (mt cm) (mw_ am cm th mw mwr mfl mact on cut mrec mlog mlive had mser mcur mrd mwt worn pg pla sou fou) [.ref (am 0), .int (nI pa)]) (vp_Si (fun r => r = nI 1)) 0 0 (fun _ => False) := by
  refine Met.ofW (cc := b_M_isFree) (maxL := 4) (ret := (some (.boolean))) (by decide) rfl ?_
  intro P e s m args below meth c0 s₁ B hml hv
  obtain ⟨rfl, hP, hK⟩ := hv
  have hx := B.exec
  have hb := B.bytes
  have hr := B.returns
  have hts := atoms_spec (ws := w_M_isFree) B.pre
  have hown : s.vm.findClass R_M = some m.cls := findClass_of_methodNamed B.named
  have hlocks := B.notSynchronized
  have hl := lv_entry ([.ref (am 0), .int (nI pa)]) (n := 4) (Nat.le_of_ble_eq_true rfl)
  rw [lg_entry_eq]
  generalize (lg_sl ([.ref (am 0), .int (nI pa)]) ++ List.replicate (4 - (lg_sl ([.ref (am 0), .int (nI pa)])).length) Slot.unset).toArray = ls at hl ⊢
  have hl : lv_has ls 4 [(0, .ref (am 0)), (1, .int (nI pa))] := hl
  refine lv_iconst (v := nI 1) hx hb d_M_isFree_0 (by decide) ?_
  refine lv_istore_n hx hb d_M_isFree_1 rfl hl (by decide) rfl (fun ls hl => ?_)
  have hl : lv_has ls 4 [(2, .int (nI 1)), (0, .ref (am 0)), (1, .int (nI pa))] := hl
  refine lv_iconst (v := nI 0) hx hb d_M_isFree_2 (by decide) ?_
  refine lv_istore_n hx hb d_M_isFree_3 rfl hl (by decide) rfl (fun ls hl => ?_)
  have hl : lv_has ls 4 [(3, .int (nI 0)), (2, .int (nI 1)), (0, .ref (am 0)), (1, .int (nI pa))] := hl
  have lp4 : ∀ (n : Nat) (k : Nat) (ls : Array Slot), (16 - k) < n → (k ≤ 16) → lv_has ls 4 [(0, .ref (am 0)), (1, .int (nI pa)), (2, .int (nI 1)), (3, .int (nI k))] → W P l e (headSpec w_M_isFree ({ frames := 0, cells := 0, slots := 0, locals := 0 })).room s m (([.ref (am 0), .int (nI pa)] : List Value).toArray) below meth c0 s.heap [] 0 0 (MQ below (vp_Si (fun r => r = nI 1)) (([.ref (am 0), .int (nI pa)] : List Value).toArray) s 0 0 (fun _ => False)) (F0 m 4 ls []) := by
    intro n
    induction n with
    | zero => intro k ls hm; intros; omega
    | succ n ih4 =>
      intro k ls hm hk hl
      refine lv_iload_n hx hb d_M_isFree_4 rfl (lv_at hl 3 rfl) ?_
      refine lv_bipush (v := nI 16) hx hb d_M_isFree_5 (by decide) ?_
      refine lv_icmp_ge (tgt := 41) hx hb d_M_isFree_7 (by decide) (fun c7 => ?_) (fun c7 => ?_)
      ·
        have c7 := cd_ge_t (by omega) (by omega) c7
        refine lv_iload_n hx hb d_M_isFree_41 rfl (lv_at hl 2 rfl) ?_
        exact W.zret (v := nI 1) hx hb hr (by first | rfl | decide | assumption) (fun t ht hW => ⟨nI 1, rfl, by first | rfl | trivial | omega, ht⟩) (fun q hq => by cases hq) d_M_isFree_42
      ·
        have c7 := cd_ge_f (by omega) (by omega) c7
        refine lv_iload_n hx hb d_M_isFree_10 rfl (lv_at hl 2 rfl) ?_
        refine lv_if_eq (tgt := 33) hx hb d_M_isFree_11 (by decide) (fun c11 => ?_) (fun c11 => ?_)
        ·
          exact absurd c11 (by decide)
        ·
          have c11 := cz_eq_f (by omega) c11
          refine lv_aload_n hx hb d_M_isFree_14 rfl (lv_at hl 0 rfl) ?_
          refine va_get (D := (dC, dI)) (ci := 5) (v := .ref (am 1)) (C := R_M) (T := F_M) (N := 20) hx hb hts (fun w h => List.mem_cons_of_mem _ (in_M w h)) hown hK hP 0 rfl rfl 1 (by decide) (hts (.fieldLink R_M 7 R_M "chip" "[I") (List.mem_cons_of_mem _ t_713)) (fun _ h9 => h9) rfl d_M_isFree_15 ?_
          refine lv_bipush (v := nI 16) hx hb d_M_isFree_18 (by decide) ?_
          refine lv_iload_n hx hb d_M_isFree_20 rfl (lv_at hl 1 rfl) ?_
          refine lv_imul hx hb d_M_isFree_21 ?_
          refine tp_i (y := nI (16 * pa)) (pk_mul _ _) ?_
          refine lv_iload_n hx hb d_M_isFree_22 rfl (lv_at hl 3 rfl) ?_
          refine lv_iadd hx hb d_M_isFree_23 ?_
          refine tp_i (y := nI ((16 * pa) + k)) (nI_add _ _) ?_
          refine va_iald hx hb hK hP 1 0 rfl rfl (vp_in_nI (by omega) (by decide)) d_M_isFree_24 ?_
          refine tp_i (y := mw ((16 * pa) + k)) (by rw [nI_clamp (by omega)]) ?_
          refine lv_iconst (v := (-1)) hx hb d_M_isFree_25 (by decide) ?_
          refine lv_icmp_ne (tgt := 33) hx hb d_M_isFree_26 (by decide) (fun c26 => ?_) (fun c26 => ?_)
          ·
            exact absurd (hmw _ (by omega)) c26
          ·
            refine lv_iconst (v := nI 1) hx hb d_M_isFree_29 (by decide) ?_
            refine lv_goto (tgt := 34) hx hb d_M_isFree_30 (by decide) ?_
            refine lv_istore_n hx hb d_M_isFree_34 rfl hl (by decide) rfl (fun ls hl => ?_)
            have hl : lv_has ls 4 [(2, .int (nI 1)), (0, .ref (am 0)), (1, .int (nI pa)), (3, .int (nI k))] := hl
            refine lv_iinc (k := 3) (v := nI (k + 1)) hx hb d_M_isFree_35 hl rfl (nI_1 _) (by decide) rfl (fun ls hl => ?_)
            have hl : lv_has ls 4 [(3, .int (nI (k + 1))), (2, .int (nI 1)), (0, .ref (am 0)), (1, .int (nI pa))] := hl
            refine lv_goto (tgt := 4) hx hb d_M_isFree_38 (by decide) ?_
            exact ih4 (k + 1) ls (by omega) (by omega) (lv_sub hl [2, 3, 1, 0] rfl)
  exact lp4 _ 0 ls (Nat.lt_succ_self _) (by omega) (lv_sub hl [2, 3, 1, 0] rfl)
set_option maxHeartbeats 4000000 in
set_option maxRecDepth 100000 in
theorem c_M_isRight_f (l : Launch) (dC : Nat → ClassId) (dI : Nat → Nat → Nat) (am cm : Nat → Nat) (th : Int32) (mw mwr mfl mact : Nat → Int32) (on cut mrec : Int32) (mlog mlive had : Nat → Int32) (mser mcur mrd mwt worn : Int32) (pg : Nat → Int32) (pla sou fou : Int32) (pa : Nat) (hp : pa < 32) (hmw : ∀ i, i < 512 → mw i = -1) : Met l y_M_isRight w_M_isRight ({ frames := 0, cells := 0, slots := 0, locals := 0 }) (xR (dC, dI) vwCl (mt cm) (mw_ am cm th mw mwr mfl mact on cut mrec mlog mlive had mser mcur mrd mwt worn pg pla sou fou) [.ref (am 0), .int (nI pa)]) (vp_Si (fun r => r = nI 0)) 0 0 (fun _ => False) := by
  refine Met.ofW (cc := b_M_isRight) (maxL := 3) (ret := (some (.boolean))) (by decide) rfl ?_
  intro P e s m args below meth c0 s₁ B hml hv
  obtain ⟨rfl, hP, hK⟩ := hv
  have hx := B.exec
  have hb := B.bytes
  have hr := B.returns
  have hts := atoms_spec (ws := w_M_isRight) B.pre
  have hown : s.vm.findClass R_M = some m.cls := findClass_of_methodNamed B.named
  have hlocks := B.notSynchronized
  have hl := lv_entry ([.ref (am 0), .int (nI pa)]) (n := 3) (Nat.le_of_ble_eq_true rfl)
  rw [lg_entry_eq]
  generalize (lg_sl ([.ref (am 0), .int (nI pa)]) ++ List.replicate (3 - (lg_sl ([.ref (am 0), .int (nI pa)])).length) Slot.unset).toArray = ls at hl ⊢
  have hl : lv_has ls 3 [(0, .ref (am 0)), (1, .int (nI pa))] := hl
  refine lv_aload_n hx hb d_M_isRight_0 rfl (lv_at hl 0 rfl) ?_
  refine va_get (D := (dC, dI)) (ci := 5) (v := .ref (am 1)) (C := R_M) (T := F_M) (N := 20) hx hb hts (fun w h => List.mem_cons_of_mem _ (in_M w h)) hown hK hP 0 rfl rfl 1 (by decide) (hts (.fieldLink R_M 7 R_M "chip" "[I") (List.mem_cons_of_mem _ t_713)) (fun _ h9 => h9) rfl d_M_isRight_1 ?_
  refine lv_bipush (v := nI 16) hx hb d_M_isRight_4 (by decide) ?_
  refine lv_iload_n hx hb d_M_isRight_6 rfl (lv_at hl 1 rfl) ?_
  refine lv_imul hx hb d_M_isRight_7 ?_
  refine tp_i (y := nI (16 * pa)) (pk_mul _ _) ?_
  refine va_iald hx hb hK hP 1 0 rfl rfl (vp_in_nI (by omega) (by decide)) d_M_isRight_8 ?_
  refine tp_i (y := mw (16 * pa)) (by rw [nI_clamp (by omega)]) ?_
  refine lv_istore_n hx hb d_M_isRight_9 rfl hl (by decide) rfl (fun ls hl => ?_)
  have hl : lv_has ls 3 [(2, .int (mw (16 * pa))), (0, .ref (am 0)), (1, .int (nI pa))] := hl
  refine lv_iload_n hx hb d_M_isRight_10 rfl (lv_at hl 0 rfl) ?_
  refine lv_if_lt (tgt := 76) hx hb d_M_isRight_11 (by decide) (fun c11 => ?_) (fun c11 => ?_)
  ·
    refine lv_iconst (v := nI 0) hx hb d_M_isRight_76 (by decide) ?_
    exact W.zret (v := nI 0) hx hb hr (by first | rfl | decide | assumption) (fun t ht hW => ⟨nI 0, rfl, by first | rfl | trivial | omega, ht⟩) (fun q hq => by cases hq) d_M_isRight_77
  ·
    exact absurd (show (mw (16 * pa) : Int32) < 0 by rw [hmw _ (by omega)]; decide) c11
set_option maxHeartbeats 4000000 in
set_option maxRecDepth 100000 in
theorem c_M_placeOf_f (l : Launch) (dC : Nat → ClassId) (dI : Nat → Nat → Nat) (am cm : Nat → Nat) (th : Int32) (mw mwr mfl mact : Nat → Int32) (on cut mrec : Int32) (mlog mlive had : Nat → Int32) (mser mcur mrd mwt worn : Int32) (pg : Nat → Int32) (pla sou fou : Int32) (n : Int32) : Met l y_M_placeOf w_M_placeOf ({ frames := 0, cells := 0, slots := 0, locals := 0 }) (xR (dC, dI) vwCl (mt cm) (mw_ am cm th mw mwr mfl mact on cut (nI 0) mlog mlive had mser mcur mrd mwt worn pg pla sou fou) [.ref (am 0), .int n]) (vp_Si (fun r => r = -1)) 0 0 (fun _ => False) := by
  refine Met.ofW (cc := b_M_placeOf) (maxL := 4) (ret := (some (.int))) (by decide) rfl ?_
  intro P e s m args below meth c0 s₁ B hml hv
  obtain ⟨rfl, hP, hK⟩ := hv
  have hx := B.exec
  have hb := B.bytes
  have hr := B.returns
  have hts := atoms_spec (ws := w_M_placeOf) B.pre
  have hown : s.vm.findClass R_M = some m.cls := findClass_of_methodNamed B.named
  have hlocks := B.notSynchronized
  have hl := lv_entry ([.ref (am 0), .int n]) (n := 4) (Nat.le_of_ble_eq_true rfl)
  rw [lg_entry_eq]
  generalize (lg_sl ([.ref (am 0), .int n]) ++ List.replicate (4 - (lg_sl ([.ref (am 0), .int n])).length) Slot.unset).toArray = ls at hl ⊢
  have hl : lv_has ls 4 [(0, .ref (am 0)), (1, .int n)] := hl
  refine lv_iconst (v := nI 0) hx hb d_M_placeOf_0 (by decide) ?_
  refine lv_istore_n hx hb d_M_placeOf_1 rfl hl (by decide) rfl (fun ls hl => ?_)
  have hl : lv_has ls 4 [(2, .int (nI 0)), (0, .ref (am 0)), (1, .int n)] := hl
  refine lv_iconst (v := nI 0) hx hb d_M_placeOf_2 (by decide) ?_
  refine lv_istore_n hx hb d_M_placeOf_3 rfl hl (by decide) rfl (fun ls hl => ?_)
  have hl : lv_has ls 4 [(3, .int (nI 0)), (2, .int (nI 0)), (0, .ref (am 0)), (1, .int n)] := hl
  refine lv_iload_n hx hb d_M_placeOf_4 rfl (lv_at hl 0 rfl) ?_
  refine lv_aload_n hx hb d_M_placeOf_5 rfl (lv_at hl 2 rfl) ?_
  refine va_get (D := (dC, dI)) (ci := 5) (v := .int (nI 0)) (C := R_M) (T := F_M) (N := 20) hx hb hts (fun w h => List.mem_cons_of_mem _ (in_M w h)) hown hK hP 0 rfl rfl 7 (by decide) (hts (.fieldLink R_M 52 R_M "records" "I") (List.mem_cons_of_mem _ t_719)) (fun _ h9 => h9) rfl d_M_placeOf_6 ?_
  refine lv_icmp_ge (tgt := 39) hx hb d_M_placeOf_9 (by decide) (fun c9 => ?_) (fun c9 => ?_)
  ·
    have c9 := cd_ge_t (by omega) (by omega) c9
    refine lv_iconst (v := (-1)) hx hb d_M_placeOf_39 (by decide) ?_
    exact W.iret (v := (-1)) hx hb hr (fun t ht hW => ⟨(-1), rfl, by first | rfl | trivial | omega, ht⟩) (fun q hq => by cases hq) d_M_placeOf_40
  ·
    exact absurd c9 (by decide)
set_option maxHeartbeats 4000000 in
set_option maxRecDepth 100000 in
theorem c_M_tickets_f (l : Launch) (dC : Nat → ClassId) (dI : Nat → Nat → Nat) (am cm : Nat → Nat) (th : Int32) (mw mwr mfl mact : Nat → Int32) (on cut mrec : Int32) (mlog mlive had : Nat → Int32) (mser mcur mrd mwt worn : Int32) (pg : Nat → Int32) (pla sou fou : Int32)  : Met l y_M_tickets w_M_tickets ({ frames := 0, cells := 0, slots := 0, locals := 0 }) (xR (dC, dI) vwCl (mt cm) (mw_ am cm th mw mwr mfl mact on cut (nI 0) mlog mlive had mser mcur mrd mwt worn pg pla sou fou) [.ref (am 0)]) (vp_Si (fun r => r = nI 0)) 0 0 (fun _ => False) := by
  refine Met.ofW (cc := b_M_tickets) (maxL := 3) (ret := (some (.int))) (by decide) rfl ?_
  intro P e s m args below meth c0 s₁ B hml hv
  obtain ⟨rfl, hP, hK⟩ := hv
  have hx := B.exec
  have hb := B.bytes
  have hr := B.returns
  have hts := atoms_spec (ws := w_M_tickets) B.pre
  have hown : s.vm.findClass R_M = some m.cls := findClass_of_methodNamed B.named
  have hlocks := B.notSynchronized
  have hl := lv_entry ([.ref (am 0)]) (n := 3) (Nat.le_of_ble_eq_true rfl)
  rw [lg_entry_eq]
  generalize (lg_sl ([.ref (am 0)]) ++ List.replicate (3 - (lg_sl ([.ref (am 0)])).length) Slot.unset).toArray = ls at hl ⊢
  have hl : lv_has ls 3 [(0, .ref (am 0))] := hl
  refine lv_iconst (v := nI 0) hx hb d_M_tickets_0 (by decide) ?_
  refine lv_istore_n hx hb d_M_tickets_1 rfl hl (by decide) rfl (fun ls hl => ?_)
  have hl : lv_has ls 3 [(1, .int (nI 0)), (0, .ref (am 0))] := hl
  refine lv_iconst (v := nI 0) hx hb d_M_tickets_2 (by decide) ?_
  refine lv_istore_n hx hb d_M_tickets_3 rfl hl (by decide) rfl (fun ls hl => ?_)
  have hl : lv_has ls 3 [(2, .int (nI 0)), (1, .int (nI 0)), (0, .ref (am 0))] := hl
  refine lv_iload_n hx hb d_M_tickets_4 rfl (lv_at hl 0 rfl) ?_
  refine lv_aload_n hx hb d_M_tickets_5 rfl (lv_at hl 2 rfl) ?_
  refine va_get (D := (dC, dI)) (ci := 5) (v := .int (nI 0)) (C := R_M) (T := F_M) (N := 20) hx hb hts (fun w h => List.mem_cons_of_mem _ (in_M w h)) hown hK hP 0 rfl rfl 7 (by decide) (hts (.fieldLink R_M 52 R_M "records" "I") (List.mem_cons_of_mem _ t_719)) (fun _ h9 => h9) rfl d_M_tickets_6 ?_
  refine lv_icmp_ge (tgt := 34) hx hb d_M_tickets_9 (by decide) (fun c9 => ?_) (fun c9 => ?_)
  ·
    have c9 := cd_ge_t (by omega) (by omega) c9
    refine lv_iload_n hx hb d_M_tickets_34 rfl (lv_at hl 1 rfl) ?_
    exact W.iret (v := nI 0) hx hb hr (fun t ht hW => ⟨nI 0, rfl, by first | rfl | trivial | omega, ht⟩) (fun q hq => by cases hq) d_M_tickets_35
  ·
    exact absurd c9 (by decide)
set_option maxHeartbeats 4000000 in
set_option maxRecDepth 100000 in
theorem c_M_durable_f (l : Launch) (dC : Nat → ClassId) (dI : Nat → Nat → Nat) (am cm : Nat → Nat) (th : Int32) (mw mwr mfl mact : Nat → Int32) (on cut mrec : Int32) (mlog mlive had : Nat → Int32) (mser mcur mrd mwt worn : Int32) (pg : Nat → Int32) (pla sou fou : Int32)  (hmv : ∀ i, i < 16 → mlive i = -1) : Met l y_M_durable w_M_durable ({ frames := 0, cells := 0, slots := 0, locals := 0 }) (xR (dC, dI) vwCl (mt cm) (mw_ am cm th mw mwr mfl mact on cut mrec mlog mlive had mser mcur mrd mwt worn pg pla sou fou) [.ref (am 0)]) (vp_Si (fun r => r = nI 0)) 0 0 (fun _ => False) := by
  refine Met.ofW (cc := b_M_durable) (maxL := 3) (ret := (some (.int))) (by decide) rfl ?_
  intro P e s m args below meth c0 s₁ B hml hv
  obtain ⟨rfl, hP, hK⟩ := hv
  have hx := B.exec
  have hb := B.bytes
  have hr := B.returns
  have hts := atoms_spec (ws := w_M_durable) B.pre
  have hown : s.vm.findClass R_M = some m.cls := findClass_of_methodNamed B.named
  have hlocks := B.notSynchronized
  have hl := lv_entry ([.ref (am 0)]) (n := 3) (Nat.le_of_ble_eq_true rfl)
  rw [lg_entry_eq]
  generalize (lg_sl ([.ref (am 0)]) ++ List.replicate (3 - (lg_sl ([.ref (am 0)])).length) Slot.unset).toArray = ls at hl ⊢
  have hl : lv_has ls 3 [(0, .ref (am 0))] := hl
  refine lv_iconst (v := nI 0) hx hb d_M_durable_0 (by decide) ?_
  refine lv_istore_n hx hb d_M_durable_1 rfl hl (by decide) rfl (fun ls hl => ?_)
  have hl : lv_has ls 3 [(1, .int (nI 0)), (0, .ref (am 0))] := hl
  refine lv_iconst (v := nI 0) hx hb d_M_durable_2 (by decide) ?_
  refine lv_istore_n hx hb d_M_durable_3 rfl hl (by decide) rfl (fun ls hl => ?_)
  have hl : lv_has ls 3 [(2, .int (nI 0)), (1, .int (nI 0)), (0, .ref (am 0))] := hl
  have lp4 : ∀ (n : Nat) (k : Nat) (ls : Array Slot), (16 - k) < n → (k ≤ 16) → lv_has ls 3 [(0, .ref (am 0)), (1, .int (nI 0)), (2, .int (nI k))] → W P l e (headSpec w_M_durable ({ frames := 0, cells := 0, slots := 0, locals := 0 })).room s m (([.ref (am 0)] : List Value).toArray) below meth c0 s.heap [] 0 0 (MQ below (vp_Si (fun r => r = nI 0)) (([.ref (am 0)] : List Value).toArray) s 0 0 (fun _ => False)) (F0 m 4 ls []) := by
    intro n
    induction n with
    | zero => intro k ls hm; intros; omega
    | succ n ih4 =>
      intro k ls hm hk hl
      refine lv_iload_n hx hb d_M_durable_4 rfl (lv_at hl 2 rfl) ?_
      refine lv_bipush (v := nI 16) hx hb d_M_durable_5 (by decide) ?_
      refine lv_icmp_ge (tgt := 38) hx hb d_M_durable_7 (by decide) (fun c7 => ?_) (fun c7 => ?_)
      ·
        have c7 := cd_ge_t (by omega) (by omega) c7
        refine lv_iload_n hx hb d_M_durable_38 rfl (lv_at hl 1 rfl) ?_
        exact W.iret (v := nI 0) hx hb hr (fun t ht hW => ⟨nI 0, rfl, by first | rfl | trivial | omega, ht⟩) (fun q hq => by cases hq) d_M_durable_39
      ·
        have c7 := cd_ge_f (by omega) (by omega) c7
        refine lv_iload_n hx hb d_M_durable_10 rfl (lv_at hl 1 rfl) ?_
        refine lv_aload_n hx hb d_M_durable_11 rfl (lv_at hl 0 rfl) ?_
        refine va_get (D := (dC, dI)) (ci := 5) (v := .ref (am 6)) (C := R_M) (T := F_M) (N := 20) hx hb hts (fun w h => List.mem_cons_of_mem _ (in_M w h)) hown hK hP 0 rfl rfl 9 (by decide) (hts (.fieldLink R_M 34 R_M "live" "[I") (List.mem_cons_of_mem _ t_721)) (fun _ h9 => h9) rfl d_M_durable_12 ?_
        refine lv_iload_n hx hb d_M_durable_15 rfl (lv_at hl 2 rfl) ?_
        refine va_iald hx hb hK hP 6 5 rfl rfl (vp_in_nI (by omega) (by decide)) d_M_durable_16 ?_
        refine tp_i (y := mlive k) (by rw [nI_clamp (by omega)]) ?_
        refine lv_if_lt (tgt := 29) hx hb d_M_durable_17 (by decide) (fun c17 => ?_) (fun c17 => ?_)
        ·
          refine lv_iconst (v := nI 0) hx hb d_M_durable_29 (by decide) ?_
          refine lv_iadd hx hb d_M_durable_30 ?_
          refine tp_i (y := nI (0 + 0)) (nI_add _ _) ?_
          refine lv_istore_n hx hb d_M_durable_31 rfl hl (by decide) rfl (fun ls hl => ?_)
          have hl : lv_has ls 3 [(1, .int (nI (0 + 0))), (0, .ref (am 0)), (2, .int (nI k))] := hl
          refine lv_iinc (k := 2) (v := nI (k + 1)) hx hb d_M_durable_32 hl rfl (nI_1 _) (by decide) rfl (fun ls hl => ?_)
          have hl : lv_has ls 3 [(2, .int (nI (k + 1))), (1, .int (nI (0 + 0))), (0, .ref (am 0))] := hl
          refine lv_goto (tgt := 4) hx hb d_M_durable_35 (by decide) ?_
          exact ih4 (k + 1) ls (by omega) (by omega) (lv_sub hl [2, 1, 0] rfl)
        ·
          exact absurd (show (mlive k : Int32) < 0 by rw [hmv _ (by omega)]; decide) c17
  exact lp4 _ 0 ls (Nat.lt_succ_self _) (by omega) (lv_sub hl [2, 1, 0] rfl)
set_option maxHeartbeats 4000000 in
set_option maxRecDepth 100000 in
theorem c_M_liveCount_f (l : Launch) (dC : Nat → ClassId) (dI : Nat → Nat → Nat) (am cm : Nat → Nat) (th : Int32) (mw mwr mfl mact : Nat → Int32) (on cut mrec : Int32) (mlog mlive had : Nat → Int32) (mser mcur mrd mwt worn : Int32) (pg : Nat → Int32) (pla sou fou : Int32)  (hmv : ∀ i, i < 16 → mlive i = -1) : Met l y_M_liveCount w_M_liveCount ({ frames := 0, cells := 0, slots := 0, locals := 0 }) (xR (dC, dI) vwCl (mt cm) (mw_ am cm th mw mwr mfl mact on cut mrec mlog mlive had mser mcur mrd mwt worn pg pla sou fou) [.ref (am 0)]) (vp_Si (fun r => r = nI 0)) 0 0 (fun _ => False) := by
  refine Met.ofW (cc := b_M_liveCount) (maxL := 3) (ret := (some (.int))) (by decide) rfl ?_
  intro P e s m args below meth c0 s₁ B hml hv
  obtain ⟨rfl, hP, hK⟩ := hv
  have hx := B.exec
  have hb := B.bytes
  have hr := B.returns
  have hts := atoms_spec (ws := w_M_liveCount) B.pre
  have hown : s.vm.findClass R_M = some m.cls := findClass_of_methodNamed B.named
  have hlocks := B.notSynchronized
  have hl := lv_entry ([.ref (am 0)]) (n := 3) (Nat.le_of_ble_eq_true rfl)
  rw [lg_entry_eq]
  generalize (lg_sl ([.ref (am 0)]) ++ List.replicate (3 - (lg_sl ([.ref (am 0)])).length) Slot.unset).toArray = ls at hl ⊢
  have hl : lv_has ls 3 [(0, .ref (am 0))] := hl
  refine lv_iconst (v := nI 0) hx hb d_M_liveCount_0 (by decide) ?_
  refine lv_istore_n hx hb d_M_liveCount_1 rfl hl (by decide) rfl (fun ls hl => ?_)
  have hl : lv_has ls 3 [(1, .int (nI 0)), (0, .ref (am 0))] := hl
  refine lv_iconst (v := nI 0) hx hb d_M_liveCount_2 (by decide) ?_
  refine lv_istore_n hx hb d_M_liveCount_3 rfl hl (by decide) rfl (fun ls hl => ?_)
  have hl : lv_has ls 3 [(2, .int (nI 0)), (1, .int (nI 0)), (0, .ref (am 0))] := hl
  have lp4 : ∀ (n : Nat) (k : Nat) (ls : Array Slot), (16 - k) < n → (k ≤ 16) → lv_has ls 3 [(0, .ref (am 0)), (1, .int (nI 0)), (2, .int (nI k))] → W P l e (headSpec w_M_liveCount ({ frames := 0, cells := 0, slots := 0, locals := 0 })).room s m (([.ref (am 0)] : List Value).toArray) below meth c0 s.heap [] 0 0 (MQ below (vp_Si (fun r => r = nI 0)) (([.ref (am 0)] : List Value).toArray) s 0 0 (fun _ => False)) (F0 m 4 ls []) := by
    intro n
    induction n with
    | zero => intro k ls hm; intros; omega
    | succ n ih4 =>
      intro k ls hm hk hl
      refine lv_iload_n hx hb d_M_liveCount_4 rfl (lv_at hl 2 rfl) ?_
      refine lv_bipush (v := nI 16) hx hb d_M_liveCount_5 (by decide) ?_
      refine lv_icmp_ge (tgt := 33) hx hb d_M_liveCount_7 (by decide) (fun c7 => ?_) (fun c7 => ?_)
      ·
        have c7 := cd_ge_t (by omega) (by omega) c7
        refine lv_iload_n hx hb d_M_liveCount_33 rfl (lv_at hl 1 rfl) ?_
        exact W.iret (v := nI 0) hx hb hr (fun t ht hW => ⟨nI 0, rfl, by first | rfl | trivial | omega, ht⟩) (fun q hq => by cases hq) d_M_liveCount_34
      ·
        have c7 := cd_ge_f (by omega) (by omega) c7
        refine lv_iload_n hx hb d_M_liveCount_10 rfl (lv_at hl 1 rfl) ?_
        refine lv_aload_n hx hb d_M_liveCount_11 rfl (lv_at hl 0 rfl) ?_
        refine va_get (D := (dC, dI)) (ci := 5) (v := .ref (am 6)) (C := R_M) (T := F_M) (N := 20) hx hb hts (fun w h => List.mem_cons_of_mem _ (in_M w h)) hown hK hP 0 rfl rfl 9 (by decide) (hts (.fieldLink R_M 34 R_M "live" "[I") (List.mem_cons_of_mem _ t_721)) (fun _ h9 => h9) rfl d_M_liveCount_12 ?_
        refine lv_iload_n hx hb d_M_liveCount_15 rfl (lv_at hl 2 rfl) ?_
        refine va_iald hx hb hK hP 6 5 rfl rfl (vp_in_nI (by omega) (by decide)) d_M_liveCount_16 ?_
        refine tp_i (y := mlive k) (by rw [nI_clamp (by omega)]) ?_
        refine lv_if_lt (tgt := 24) hx hb d_M_liveCount_17 (by decide) (fun c17 => ?_) (fun c17 => ?_)
        ·
          refine lv_iconst (v := nI 0) hx hb d_M_liveCount_24 (by decide) ?_
          refine lv_iadd hx hb d_M_liveCount_25 ?_
          refine tp_i (y := nI (0 + 0)) (nI_add _ _) ?_
          refine lv_istore_n hx hb d_M_liveCount_26 rfl hl (by decide) rfl (fun ls hl => ?_)
          have hl : lv_has ls 3 [(1, .int (nI (0 + 0))), (0, .ref (am 0)), (2, .int (nI k))] := hl
          refine lv_iinc (k := 2) (v := nI (k + 1)) hx hb d_M_liveCount_27 hl rfl (nI_1 _) (by decide) rfl (fun ls hl => ?_)
          have hl : lv_has ls 3 [(2, .int (nI (k + 1))), (1, .int (nI (0 + 0))), (0, .ref (am 0))] := hl
          refine lv_goto (tgt := 4) hx hb d_M_liveCount_30 (by decide) ?_
          exact ih4 (k + 1) ls (by omega) (by omega) (lv_sub hl [2, 1, 0] rfl)
        ·
          exact absurd (show (mlive k : Int32) < 0 by rw [hmv _ (by omega)]; decide) c17
  exact lp4 _ 0 ls (Nat.lt_succ_self _) (by omega) (lv_sub hl [2, 1, 0] rfl)
set_option maxHeartbeats 4000000 in
set_option maxRecDepth 100000 in
theorem c_M_freePages_f (l : Launch) (dC : Nat → ClassId) (dI : Nat → Nat → Nat) (am cm : Nat → Nat) (th : Int32) (mw mwr mfl mact : Nat → Int32) (on cut mrec : Int32) (mlog mlive had : Nat → Int32) (mser mcur mrd mwt worn : Int32) (pg : Nat → Int32) (pla sou fou : Int32)  (hmw : ∀ i, i < 512 → mw i = -1) (hmf : ∀ i, i < 8 → mfl i = 0) : Met l y_M_freePages w_M_freePages ({ frames := 1, cells := 0, slots := 0, locals := 23 }) (xR (dC, dI) vwCl (mt cm) (mw_ am cm th mw mwr mfl mact on cut mrec mlog mlive had mser mcur mrd mwt worn pg pla sou fou) [.ref (am 0)]) (vp_Si (fun r => r = nI 32)) 0 0 (fun _ => False) := by
  refine Met.ofW (cc := b_M_freePages) (maxL := 3) (ret := (some (.int))) (by decide) rfl ?_
  intro P e s m args below meth c0 s₁ B hml hv
  obtain ⟨rfl, hP, hK⟩ := hv
  have hx := B.exec
  have hb := B.bytes
  have hr := B.returns
  have hts := atoms_spec (ws := w_M_freePages) B.pre
  have hown : s.vm.findClass R_M = some m.cls := findClass_of_methodNamed B.named
  have hlocks := B.notSynchronized
  have hl := lv_entry ([.ref (am 0)]) (n := 3) (Nat.le_of_ble_eq_true rfl)
  rw [lg_entry_eq]
  generalize (lg_sl ([.ref (am 0)]) ++ List.replicate (3 - (lg_sl ([.ref (am 0)])).length) Slot.unset).toArray = ls at hl ⊢
  have hl : lv_has ls 3 [(0, .ref (am 0))] := hl
  refine lv_iconst (v := nI 0) hx hb d_M_freePages_0 (by decide) ?_
  refine lv_istore_n hx hb d_M_freePages_1 rfl hl (by decide) rfl (fun ls hl => ?_)
  have hl : lv_has ls 3 [(1, .int (nI 0)), (0, .ref (am 0))] := hl
  refine lv_iconst (v := nI 0) hx hb d_M_freePages_2 (by decide) ?_
  refine lv_istore_n hx hb d_M_freePages_3 rfl hl (by decide) rfl (fun ls hl => ?_)
  have hl : lv_has ls 3 [(2, .int (nI 0)), (1, .int (nI 0)), (0, .ref (am 0))] := hl
  have lp4 : ∀ (n : Nat) (k : Nat) (ls : Array Slot), (32 - k) < n → (k ≤ 32) → lv_has ls 3 [(0, .ref (am 0)), (1, .int (nI k)), (2, .int (nI k))] → W P l e (headSpec w_M_freePages ({ frames := 1, cells := 0, slots := 0, locals := 23 })).room s m (([.ref (am 0)] : List Value).toArray) below meth c0 s.heap [] 0 0 (MQ below (vp_Si (fun r => r = nI 32)) (([.ref (am 0)] : List Value).toArray) s 0 0 (fun _ => False)) (F0 m 4 ls []) := by
    intro n
    induction n with
    | zero => intro k ls hm; intros; omega
    | succ n ih4 =>
      intro k ls hm hk hl
      refine lv_iload_n hx hb d_M_freePages_4 rfl (lv_at hl 2 rfl) ?_
      refine lv_bipush (v := nI 32) hx hb d_M_freePages_5 (by decide) ?_
      refine lv_icmp_ge (tgt := 43) hx hb d_M_freePages_7 (by decide) (fun c7 => ?_) (fun c7 => ?_)
      ·
        have c7 := cd_ge_t (by omega) (by omega) c7
        refine lv_iload_n hx hb d_M_freePages_43 rfl (lv_at hl 1 rfl) ?_
        exact W.iret (v := nI k) hx hb hr (fun t ht hW => ⟨nI k, rfl, by rw [show k = 32 by omega], ht⟩) (fun q hq => by cases hq) d_M_freePages_44
      ·
        have c7 := cd_ge_f (by omega) (by omega) c7
        refine lv_iload_n hx hb d_M_freePages_10 rfl (lv_at hl 1 rfl) ?_
        refine lv_aload_n hx hb d_M_freePages_11 rfl (lv_at hl 0 rfl) ?_
        refine lv_iload_n hx hb d_M_freePages_12 rfl (lv_at hl 2 rfl) ?_
        refine vp_callSi (va_runV (C := R_M) (As := [.int (nI k)]) (rest := [.int (nI k)]) ⟨hx, hb, hml, hown, hts⟩ (c_M_isFree_f l dC dI am cm th mw mwr mfl mact on cut mrec mlog mlive had mser mcur mrd mwt worn pg pla sou fou k (by omega) (hmw)) (cwV 1 hts (g_V t_820 t_822 s_28 t_6 t_823) rfl rfl rfl (by decide +kernel) ⟨by decide, by decide⟩) (xR_v hP hK 0 rfl rfl) rfl rfl hl.1 rfl (lv_room (Nat.le_of_ble_eq_true rfl)) d_M_freePages_13 ⟨Nat.le_refl _, Nat.le_refl _⟩).run (fun r13 q13 => ?_)
        subst q13
        refine lv_if_eq (tgt := 34) hx hb d_M_freePages_16 (by decide) (fun c16 => ?_) (fun c16 => ?_)
        ·
          exact absurd c16 (by decide)
        ·
          have c16 := cz_eq_f (by omega) c16
          refine lv_aload_n hx hb d_M_freePages_19 rfl (lv_at hl 0 rfl) ?_
          refine va_get (D := (dC, dI)) (ci := 5) (v := .ref (am 3)) (C := R_M) (T := F_M) (N := 20) hx hb hts (fun w h => List.mem_cons_of_mem _ (in_M w h)) hown hK hP 0 rfl rfl 3 (by decide) (hts (.fieldLink R_M 16 R_M "failed" "[Z") (List.mem_cons_of_mem _ t_715)) (fun _ h9 => h9) rfl d_M_freePages_20 ?_
          refine lv_iload_n hx hb d_M_freePages_23 rfl (lv_at hl 2 rfl) ?_
          refine lv_iconst (v := nI 4) hx hb d_M_freePages_24 (by decide) ?_
          refine lv_idiv hx hb d_M_freePages_25 (by decide) ?_
          refine tp_i (y := nI (k / 4)) (pk_div (by omega) (by omega) (by omega)) ?_
          refine va_zald hx hb hK hP 3 2 rfl rfl (vp_in_nI (by omega) (by decide)) d_M_freePages_26 ?_
          refine tp_i (y := mfl (k / 4)) (by rw [nI_clamp (by omega)]) ?_
          refine lv_if_ne (tgt := 34) hx hb d_M_freePages_27 (by decide) (fun c27 => ?_) (fun c27 => ?_)
          ·
            exact absurd (hmf _ (by omega)) c27
          ·
            refine lv_iconst (v := nI 1) hx hb d_M_freePages_30 (by decide) ?_
            refine lv_goto (tgt := 35) hx hb d_M_freePages_31 (by decide) ?_
            refine lv_iadd hx hb d_M_freePages_35 ?_
            refine tp_i (y := nI (k + 1)) (nI_add _ _) ?_
            refine lv_istore_n hx hb d_M_freePages_36 rfl hl (by decide) rfl (fun ls hl => ?_)
            have hl : lv_has ls 3 [(1, .int (nI (k + 1))), (0, .ref (am 0)), (2, .int (nI k))] := hl
            refine lv_iinc (k := 2) (v := nI (k + 1)) hx hb d_M_freePages_37 hl rfl (nI_1 _) (by decide) rfl (fun ls hl => ?_)
            have hl : lv_has ls 3 [(2, .int (nI (k + 1))), (1, .int (nI (k + 1))), (0, .ref (am 0))] := hl
            refine lv_goto (tgt := 4) hx hb d_M_freePages_40 (by decide) ?_
            exact ih4 (k + 1) ls (by omega) (by omega) (lv_sub hl [2, 1, 0] rfl)
  exact lp4 _ 0 ls (Nat.lt_succ_self _) (by omega) (lv_sub hl [2, 1, 0] rfl)
set_option maxHeartbeats 4000000 in
set_option maxRecDepth 100000 in
theorem c_M_latest_f (l : Launch) (dC : Nat → ClassId) (dI : Nat → Nat → Nat) (am cm : Nat → Nat) (th : Int32) (mw mwr mfl mact : Nat → Int32) (on cut mrec : Int32) (mlog mlive had : Nat → Int32) (mser mcur mrd mwt worn : Int32) (pg : Nat → Int32) (pla sou fou : Int32) (leaf : Int32) (hmw : ∀ i, i < 512 → mw i = -1) : Met l y_M_latest w_M_latest ({ frames := 1, cells := 0, slots := 0, locals := 22 }) (xR (dC, dI) vwCl (mt cm) (mw_ am cm th mw mwr mfl mact on cut mrec mlog mlive had mser mcur mrd mwt worn pg pla sou fou) [.ref (am 0), .int leaf]) (vp_Si (fun r => r = -1)) 0 0 (fun _ => False) := by
  refine Met.ofW (cc := b_M_latest) (maxL := 4) (ret := (some (.int))) (by decide) rfl ?_
  intro P e s m args below meth c0 s₁ B hml hv
  obtain ⟨rfl, hP, hK⟩ := hv
  have hx := B.exec
  have hb := B.bytes
  have hr := B.returns
  have hts := atoms_spec (ws := w_M_latest) B.pre
  have hown : s.vm.findClass R_M = some m.cls := findClass_of_methodNamed B.named
  have hlocks := B.notSynchronized
  have hl := lv_entry ([.ref (am 0), .int leaf]) (n := 4) (Nat.le_of_ble_eq_true rfl)
  rw [lg_entry_eq]
  generalize (lg_sl ([.ref (am 0), .int leaf]) ++ List.replicate (4 - (lg_sl ([.ref (am 0), .int leaf])).length) Slot.unset).toArray = ls at hl ⊢
  have hl : lv_has ls 4 [(0, .ref (am 0)), (1, .int leaf)] := hl
  refine lv_iconst (v := (-1)) hx hb d_M_latest_0 (by decide) ?_
  refine lv_istore_n hx hb d_M_latest_1 rfl hl (by decide) rfl (fun ls hl => ?_)
  have hl : lv_has ls 4 [(2, .int (-1)), (0, .ref (am 0)), (1, .int leaf)] := hl
  refine lv_iconst (v := nI 0) hx hb d_M_latest_2 (by decide) ?_
  refine lv_istore_n hx hb d_M_latest_3 rfl hl (by decide) rfl (fun ls hl => ?_)
  have hl : lv_has ls 4 [(3, .int (nI 0)), (2, .int (-1)), (0, .ref (am 0)), (1, .int leaf)] := hl
  have lp4 : ∀ (n : Nat) (k : Nat) (ls : Array Slot), (32 - k) < n → (k ≤ 32) → lv_has ls 4 [(0, .ref (am 0)), (1, .int leaf), (2, .int (-1)), (3, .int (nI k))] → W P l e (headSpec w_M_latest ({ frames := 1, cells := 0, slots := 0, locals := 22 })).room s m (([.ref (am 0), .int leaf] : List Value).toArray) below meth c0 s.heap [] 0 0 (MQ below (vp_Si (fun r => r = -1)) (([.ref (am 0), .int leaf] : List Value).toArray) s 0 0 (fun _ => False)) (F0 m 4 ls []) := by
    intro n
    induction n with
    | zero => intro k ls hm; intros; omega
    | succ n ih4 =>
      intro k ls hm hk hl
      refine lv_iload_n hx hb d_M_latest_4 rfl (lv_at hl 3 rfl) ?_
      refine lv_bipush (v := nI 32) hx hb d_M_latest_5 (by decide) ?_
      refine lv_icmp_ge (tgt := 74) hx hb d_M_latest_7 (by decide) (fun c7 => ?_) (fun c7 => ?_)
      ·
        have c7 := cd_ge_t (by omega) (by omega) c7
        refine lv_iload_n hx hb d_M_latest_74 rfl (lv_at hl 2 rfl) ?_
        exact W.iret (v := (-1)) hx hb hr (fun t ht hW => ⟨(-1), rfl, by first | rfl | trivial | omega, ht⟩) (fun q hq => by cases hq) d_M_latest_75
      ·
        have c7 := cd_ge_f (by omega) (by omega) c7
        refine lv_aload_n hx hb d_M_latest_10 rfl (lv_at hl 0 rfl) ?_
        refine lv_iload_n hx hb d_M_latest_11 rfl (lv_at hl 3 rfl) ?_
        refine vp_callSi (va_runV (C := R_M) (As := [.int (nI k)]) (rest := []) ⟨hx, hb, hml, hown, hts⟩ (c_M_isRight_f l dC dI am cm th mw mwr mfl mact on cut mrec mlog mlive had mser mcur mrd mwt worn pg pla sou fou k (by omega) (hmw)) (cwV 1 hts (g_V t_927 t_929 s_47 t_6 t_930) rfl rfl rfl (by decide +kernel) ⟨by decide, by decide⟩) (xR_v hP hK 0 rfl rfl) rfl rfl hl.1 rfl (lv_room (Nat.le_of_ble_eq_true rfl)) d_M_latest_12 ⟨Nat.le_refl _, Nat.le_refl _⟩).run (fun r12 q12 => ?_)
        subst q12
        refine lv_if_eq (tgt := 68) hx hb d_M_latest_15 (by decide) (fun c15 => ?_) (fun c15 => ?_)
        ·
          have c15 := cz_eq_t (by omega) c15
          refine lv_iinc (k := 3) (v := nI (k + 1)) hx hb d_M_latest_68 hl rfl (nI_1 _) (by decide) rfl (fun ls hl => ?_)
          have hl : lv_has ls 4 [(3, .int (nI (k + 1))), (0, .ref (am 0)), (1, .int leaf), (2, .int (-1))] := hl
          refine lv_goto (tgt := 4) hx hb d_M_latest_71 (by decide) ?_
          exact ih4 (k + 1) ls (by omega) (by omega) (lv_sub hl [1, 2, 3, 0] rfl)
        ·
          exact absurd c15 (by decide)
  exact lp4 _ 0 ls (Nat.lt_succ_self _) (by omega) (lv_sub hl [2, 3, 1, 0] rfl)
end
section
set_option maxHeartbeats 4000000 in
set_option maxRecDepth 100000 in
theorem c_M_axle_ok (l : Launch) (dC : Nat → ClassId) (dI : Nat → Nat → Nat) (am cm : Nat → Nat) (sz : Nat) (th : Int32) (mw mwr mfl mact : Nat → Int32) (on cut mrec : Int32) (mlog mlive had : Nat → Int32) (mser mcur mrd mwt worn : Int32) (pg : Nat → Int32) (pla sou fou : Int32) (st : Int32) (hok : (nI 1 ≤ st ∧ st ≤ nI 1200)) : Met l y_M_axle w_M_axle ({ frames := 1, cells := 0, slots := 0, locals := 22 }) (xP (dC, dI) vwCl (mt cm) (mw_ am cm th mw mwr mfl mact (nI 1) (-1) (nI 0) mlog mlive had (nI 0) (-1) (nI 0) (nI 0) (nI 0) pg pla sou fou) sz [.ref (am 0), .int st]) (va_Qi (fun r (u : Unit) => r = nI 1) (fun (u : Unit) (t : State) => xB (dC, dI) vwCl (mt cm) (xA 9 am sz) (mw_ am cm (nI 0) mw mwr mfl mact (nI 1) (-1) (nI 0) mlog mlive had (nI 0) (-1) (nI (0 + 1)) (nI 0 + st) (nI 0) pg pla sou fou) t) (xA 9 am sz)) 0 0 (xA 9 am sz) := by
  refine Met.ofW (cc := b_M_axle) (maxL := 2) (ret := (some (.int))) (by decide) rfl ?_
  intro P e s m args below meth c0 s₁ B hml hv
  obtain ⟨rfl, hsz, hP, hK, hD0⟩ := hv
  have hx := B.exec
  have hb := B.bytes
  have hr := B.returns
  have hts := atoms_spec (ws := w_M_axle) B.pre
  have hown : s.vm.findClass R_M = some m.cls := findClass_of_methodNamed B.named
  have hlocks := B.notSynchronized
  subst hsz
  have hD := mw_D (sz := s.heap.size) hD0
  have hS : va_S (xA 9 am s.heap.size) s.heap s.heap [] := va_S.rf
  have hl := lv_entry ([.ref (am 0), .int st]) (n := 2) (Nat.le_of_ble_eq_true rfl)
  rw [lg_entry_eq]
  generalize (lg_sl ([.ref (am 0), .int st]) ++ List.replicate (2 - (lg_sl ([.ref (am 0), .int st])).length) Slot.unset).toArray = ls at hl ⊢
  have hl : lv_has ls 2 [(0, .ref (am 0)), (1, .int st)] := hl
  refine lv_aload_n hx hb d_M_axle_0 rfl (lv_at hl 0 rfl) ?_
  refine lv_iconst (v := nI 1) hx hb d_M_axle_1 (by decide) ?_
  refine lv_iload_n hx hb d_M_axle_2 rfl (lv_at hl 1 rfl) ?_
  refine lv_iconst (v := nI 1) hx hb d_M_axle_3 (by decide) ?_
  refine lv_sipush (v := nI 1200) hx hb d_M_axle_4 (by decide) ?_
  refine vp_callSi (va_runS (As := [.int st, .int (nI 1), .int (nI 1200)]) (rest := [.int (nI 1), .ref (am 0)]) ⟨hx, hb, hml, hown, hts⟩ (c_M_isIn l dC dI st (nI 1) (nI 1200) ) (cwS 3 hts (g_S t_781 t_782 t_6 t_783) rfl rfl rfl (by decide +kernel) ⟨by decide, by decide⟩) (xR_s (va_P.sub hP [] rfl) (hK.sub [] rfl)) rfl rfl hl.1 rfl (lv_room (Nat.le_of_ble_eq_true rfl)) d_M_axle_7 ⟨Nat.le_refl _, Nat.le_refl _⟩).run (fun r7 q7 => ?_)
  obtain ⟨rfl, -⟩ := q7.resolve_right (fun z => z.2 (hok))
  refine lv_if_ne (tgt := 17) hx hb d_M_axle_10 (by decide) (fun c10 => ?_) (fun c10 => ?_)
  ·
    refine lv_iconst (v := nI 0) hx hb d_M_axle_17 (by decide) ?_
    have hSz := hS.1
    refine va_calli (va_runV (C := R_M) (As := [.int (nI 1), .int (nI 0)]) (rest := []) ⟨hx, hb, hml, hown, hts⟩ (c_M_fails_0 l dC dI am cm s.heap.size th mw mwr mfl mact (nI 1) (-1) (nI 0) mlog mlive had (nI 0) (-1) (nI 0) (nI 0) (nI 0) pg pla sou fou (nI 1) ) (cwV 2 hts (g_V t_784 t_786 s_22 t_6 t_787) rfl rfl rfl (by decide +kernel) ⟨by decide, by decide⟩) (xP_v hP hK hD 0 rfl rfl) rfl rfl hl.1 rfl (lv_room (Nat.le_of_ble_eq_true rfl)) d_M_axle_18 ⟨Nat.le_refl _, Nat.le_refl _⟩) hS (fun q _ h => xA_up hS.1 q h) (fun q h => xA_up hS.1 q h) (fun r18 u18 t H1 locs1 ht hvm q18 hB hz1 hk1 hS => ?_)
    obtain ⟨hP1, hK1, hD1⟩ := hB
    rw [ht] at hP1
    have hD : va_D (xA 9 am s.heap.size) (mw_ am cm (nI 0) mw mwr mfl mact (nI 1) (-1) (nI 0) mlog mlive had (nI 0) (-1) (nI 0) (nI 0) (nI 0) pg pla sou fou) := hD1.weaken (fun _ q _ h => xA_up hSz _ h)
    have hP : va_P (dC, dI) vwCl (mw_ am cm (nI 0) mw mwr mfl mact (nI 1) (-1) (nI 0) mlog mlive had (nI 0) (-1) (nI 0) (nI 0) (nI 0) pg pla sou fou) H1 := hP1
    generalize H1 = H at hP hS ⊢
    generalize locs1 = locs at hS ⊢
    subst q18
    refine lv_if_ne (tgt := 53) hx hb d_M_axle_21 (by decide) (fun c21 => ?_) (fun c21 => ?_)
    ·
      exact absurd c21 (by decide)
    ·
      have c21 := cz_ne_f (by omega) c21
      refine lv_aload_n hx hb d_M_axle_24 rfl (lv_at hl 0 rfl) ?_
      refine lv_iconst (v := nI 2) hx hb d_M_axle_25 (by decide) ?_
      refine lv_aload_n hx hb d_M_axle_26 rfl (lv_at hl 0 rfl) ?_
      refine va_get (D := (dC, dI)) (ci := 5) (v := .int (nI 1)) (C := R_M) (T := F_M) (N := 20) hx hb hts (fun w h => List.mem_cons_of_mem _ (in_M w h)) hown hK hP 0 rfl rfl 5 (by decide) (hts (.fieldLink R_M 23 R_M "on" "Z") (List.mem_cons_of_mem _ t_717)) (fun _ h9 => h9) rfl d_M_axle_27 ?_
      refine lv_if_eq (tgt := 42) hx hb d_M_axle_30 (by decide) (fun c30 => ?_) (fun c30 => ?_)
      ·
        exact absurd c30 (by decide)
      ·
        have c30 := cz_eq_f (by omega) c30
        refine lv_aload_n hx hb d_M_axle_33 rfl (lv_at hl 0 rfl) ?_
        refine va_get (D := (dC, dI)) (ci := 5) (v := .int (nI 0)) (C := R_M) (T := F_M) (N := 20) hx hb hts (fun w h => List.mem_cons_of_mem _ (in_M w h)) hown hK hP 0 rfl rfl 13 (by decide) (hts (.fieldLink R_M 58 R_M "readings" "I") (List.mem_cons_of_mem _ t_725)) (fun _ h9 => h9) rfl d_M_axle_34 ?_
        refine lv_bipush (v := nI 9) hx hb d_M_axle_37 (by decide) ?_
        refine lv_icmp_ne (tgt := 46) hx hb d_M_axle_39 (by decide) (fun c39 => ?_) (fun c39 => ?_)
        ·
          have c39 := cd_ne_t (by omega) (by omega) c39
          refine lv_iconst (v := nI 0) hx hb d_M_axle_46 (by decide) ?_
          have hSz := hS.1
          refine va_calli (va_runV (C := R_M) (As := [.int (nI 2), .int (nI 0)]) (rest := []) ⟨hx, hb, hml, hown, hts⟩ (c_M_fails_0 l dC dI am cm H.size (nI 0) mw mwr mfl mact (nI 1) (-1) (nI 0) mlog mlive had (nI 0) (-1) (nI 0) (nI 0) (nI 0) pg pla sou fou (nI 2) ) (cwV 2 hts (g_V t_784 t_786 s_22 t_6 t_787) rfl rfl rfl (by decide +kernel) ⟨by decide, by decide⟩) (xP_v hP hK hD 0 rfl rfl) rfl rfl hl.1 rfl (lv_room (Nat.le_of_ble_eq_true rfl)) d_M_axle_47 ⟨Nat.le_refl _, Nat.le_refl _⟩) hS (fun q _ h => xA_up hS.1 q h) (fun q h => xA_up hS.1 q h) (fun r47 u47 t H1 locs1 ht hvm q47 hB hz1 hk1 hS => ?_)
          obtain ⟨hP1, hK1, hD1⟩ := hB
          rw [ht] at hP1
          have hD : va_D (xA 9 am s.heap.size) (mw_ am cm (nI 0) mw mwr mfl mact (nI 1) (-1) (nI 0) mlog mlive had (nI 0) (-1) (nI 0) (nI 0) (nI 0) pg pla sou fou) := hD1.weaken (fun _ q _ h => xA_up hSz _ h)
          have hP : va_P (dC, dI) vwCl (mw_ am cm (nI 0) mw mwr mfl mact (nI 1) (-1) (nI 0) mlog mlive had (nI 0) (-1) (nI 0) (nI 0) (nI 0) pg pla sou fou) H1 := hP1
          generalize H1 = H at hP hS ⊢
          generalize locs1 = locs at hS ⊢
          subst q47
          refine lv_if_eq (tgt := 55) hx hb d_M_axle_50 (by decide) (fun c50 => ?_) (fun c50 => ?_)
          ·
            have c50 := cz_eq_t (by omega) c50
            refine lv_aload_n hx hb d_M_axle_55 rfl (lv_at hl 0 rfl) ?_
            refine lv_dup hx hb d_M_axle_56 rfl ?_
            refine va_get (D := (dC, dI)) (ci := 5) (v := .int (nI 0)) (C := R_M) (T := F_M) (N := 20) hx hb hts (fun w h => List.mem_cons_of_mem _ (in_M w h)) hown hK hP 0 rfl rfl 13 (by decide) (hts (.fieldLink R_M 58 R_M "readings" "I") (List.mem_cons_of_mem _ t_725)) (fun _ h9 => h9) rfl d_M_axle_57 ?_
            refine lv_iconst (v := nI 1) hx hb d_M_axle_60 (by decide) ?_
            refine lv_iadd hx hb d_M_axle_61 ?_
            refine tp_i (y := nI (0 + 1)) (nI_add _ _) ?_
            refine va_put (D := (dC, dI)) (ci := 5) (v := .int (nI (0 + 1))) (ty := .int) (C := R_M) (T := F_M) (N := 20) hx hb hts (fun w h => List.mem_cons_of_mem _ (in_M w h)) t_M ok_M nm_M hown hK hP hD hS 0 rfl rfl 13 (by decide) (hts (.fieldLink R_M 58 R_M "readings" "I") (List.mem_cons_of_mem _ t_725)) (fun _ h9 => h9) rfl (by decide +kernel) rfl rfl (Nat.le_of_ble_eq_true rfl) d_M_axle_62 (fun H locs hP hD hS => ?_)
            have hP : va_P (dC, dI) vwCl (mw_ am cm (nI 0) mw mwr mfl mact (nI 1) (-1) (nI 0) mlog mlive had (nI 0) (-1) (nI (0 + 1)) (nI 0) (nI 0) pg pla sou fou) H := hP
            have hD : va_D (xA 9 am s.heap.size) (mw_ am cm (nI 0) mw mwr mfl mact (nI 1) (-1) (nI 0) mlog mlive had (nI 0) (-1) (nI (0 + 1)) (nI 0) (nI 0) pg pla sou fou) := hD
            refine lv_aload_n hx hb d_M_axle_65 rfl (lv_at hl 0 rfl) ?_
            refine lv_dup hx hb d_M_axle_66 rfl ?_
            refine va_get (D := (dC, dI)) (ci := 5) (v := .int (nI 0)) (C := R_M) (T := F_M) (N := 20) hx hb hts (fun w h => List.mem_cons_of_mem _ (in_M w h)) hown hK hP 0 rfl rfl 14 (by decide) (hts (.fieldLink R_M 61 R_M "weight" "I") (List.mem_cons_of_mem _ t_726)) (fun _ h9 => h9) rfl d_M_axle_67 ?_
            refine lv_iload_n hx hb d_M_axle_70 rfl (lv_at hl 1 rfl) ?_
            refine lv_iadd hx hb d_M_axle_71 ?_
            refine va_put (D := (dC, dI)) (ci := 5) (v := .int ((nI 0) + st)) (ty := .int) (C := R_M) (T := F_M) (N := 20) hx hb hts (fun w h => List.mem_cons_of_mem _ (in_M w h)) t_M ok_M nm_M hown hK hP hD hS 0 rfl rfl 14 (by decide) (hts (.fieldLink R_M 61 R_M "weight" "I") (List.mem_cons_of_mem _ t_726)) (fun _ h9 => h9) rfl (by decide +kernel) rfl rfl (Nat.le_of_ble_eq_true rfl) d_M_axle_72 (fun H locs hP hD hS => ?_)
            have hP : va_P (dC, dI) vwCl (mw_ am cm (nI 0) mw mwr mfl mact (nI 1) (-1) (nI 0) mlog mlive had (nI 0) (-1) (nI (0 + 1)) ((nI 0) + st) (nI 0) pg pla sou fou) H := hP
            have hD : va_D (xA 9 am s.heap.size) (mw_ am cm (nI 0) mw mwr mfl mact (nI 1) (-1) (nI 0) mlog mlive had (nI 0) (-1) (nI (0 + 1)) ((nI 0) + st) (nI 0) pg pla sou fou) := hD
            refine lv_aload_n hx hb d_M_axle_75 rfl (lv_at hl 0 rfl) ?_
            refine va_get (D := (dC, dI)) (ci := 5) (v := .int (nI (0 + 1))) (C := R_M) (T := F_M) (N := 20) hx hb hts (fun w h => List.mem_cons_of_mem _ (in_M w h)) hown hK hP 0 rfl rfl 13 (by decide) (hts (.fieldLink R_M 58 R_M "readings" "I") (List.mem_cons_of_mem _ t_725)) (fun _ h9 => h9) rfl d_M_axle_76 ?_
            exact W.iret (v := nI (0 + 1)) hx hb hr (fun t ht hW => ⟨⟨nI (0 + 1), (), rfl, by first | rfl | trivial | omega, ⟨by rw [ht]; exact hP, va_K.moved hW.alike hK, hD⟩⟩, hS.F ht⟩) hS.2.2 d_M_axle_79
          ·
            exact absurd c50 (by decide)
        ·
          exact absurd c39 (by decide)
  ·
    exact absurd c10 (by decide)
set_option maxHeartbeats 4000000 in
set_option maxRecDepth 100000 in
theorem c_M_axle_bad (l : Launch) (dC : Nat → ClassId) (dI : Nat → Nat → Nat) (am cm : Nat → Nat) (sz : Nat) (th : Int32) (mw mwr mfl mact : Nat → Int32) (on cut mrec : Int32) (mlog mlive had : Nat → Int32) (mser mcur mrd mwt worn : Int32) (pg : Nat → Int32) (pla sou fou : Int32) (st : Int32) (hok : ¬ (nI 1 ≤ st ∧ st ≤ nI 1200)) : Met l y_M_axle w_M_axle ({ frames := 1, cells := 0, slots := 0, locals := 22 }) (xP (dC, dI) vwCl (mt cm) (mw_ am cm th mw mwr mfl mact (nI 1) (-1) (nI 0) mlog mlive had (nI 0) (-1) (nI 0) (nI 0) (nI 0) pg pla sou fou) sz [.ref (am 0), .int st]) (va_Qi (fun r (u : Unit) => r = nI 0) (fun (u : Unit) (t : State) => xB (dC, dI) vwCl (mt cm) (xA 9 am sz) (mw_ am cm (nI 1) mw mwr mfl mact (nI 1) (-1) (nI 0) mlog mlive had (nI 0) (-1) (nI 0) (nI 0) (nI 0) pg pla sou fou) t) (xA 9 am sz)) 0 0 (xA 9 am sz) := by
  refine Met.ofW (cc := b_M_axle) (maxL := 2) (ret := (some (.int))) (by decide) rfl ?_
  intro P e s m args below meth c0 s₁ B hml hv
  obtain ⟨rfl, hsz, hP, hK, hD0⟩ := hv
  have hx := B.exec
  have hb := B.bytes
  have hr := B.returns
  have hts := atoms_spec (ws := w_M_axle) B.pre
  have hown : s.vm.findClass R_M = some m.cls := findClass_of_methodNamed B.named
  have hlocks := B.notSynchronized
  subst hsz
  have hD := mw_D (sz := s.heap.size) hD0
  have hS : va_S (xA 9 am s.heap.size) s.heap s.heap [] := va_S.rf
  have hl := lv_entry ([.ref (am 0), .int st]) (n := 2) (Nat.le_of_ble_eq_true rfl)
  rw [lg_entry_eq]
  generalize (lg_sl ([.ref (am 0), .int st]) ++ List.replicate (2 - (lg_sl ([.ref (am 0), .int st])).length) Slot.unset).toArray = ls at hl ⊢
  have hl : lv_has ls 2 [(0, .ref (am 0)), (1, .int st)] := hl
  refine lv_aload_n hx hb d_M_axle_0 rfl (lv_at hl 0 rfl) ?_
  refine lv_iconst (v := nI 1) hx hb d_M_axle_1 (by decide) ?_
  refine lv_iload_n hx hb d_M_axle_2 rfl (lv_at hl 1 rfl) ?_
  refine lv_iconst (v := nI 1) hx hb d_M_axle_3 (by decide) ?_
  refine lv_sipush (v := nI 1200) hx hb d_M_axle_4 (by decide) ?_
  refine vp_callSi (va_runS (As := [.int st, .int (nI 1), .int (nI 1200)]) (rest := [.int (nI 1), .ref (am 0)]) ⟨hx, hb, hml, hown, hts⟩ (c_M_isIn l dC dI st (nI 1) (nI 1200) ) (cwS 3 hts (g_S t_781 t_782 t_6 t_783) rfl rfl rfl (by decide +kernel) ⟨by decide, by decide⟩) (xR_s (va_P.sub hP [] rfl) (hK.sub [] rfl)) rfl rfl hl.1 rfl (lv_room (Nat.le_of_ble_eq_true rfl)) d_M_axle_7 ⟨Nat.le_refl _, Nat.le_refl _⟩).run (fun r7 q7 => ?_)
  obtain ⟨rfl, -⟩ := q7.resolve_left (fun z => (hok) z.2)
  refine lv_if_ne (tgt := 17) hx hb d_M_axle_10 (by decide) (fun c10 => ?_) (fun c10 => ?_)
  ·
    exact absurd c10 (by decide)
  ·
    refine lv_iconst (v := nI 1) hx hb d_M_axle_13 (by decide) ?_
    refine lv_goto (tgt := 18) hx hb d_M_axle_14 (by decide) ?_
    have hSz := hS.1
    refine va_calli (va_runV (C := R_M) (As := [.int (nI 1), .int (nI 1)]) (rest := []) ⟨hx, hb, hml, hown, hts⟩ (c_M_fails_1 l dC dI am cm s.heap.size th mw mwr mfl mact (nI 1) (-1) (nI 0) mlog mlive had (nI 0) (-1) (nI 0) (nI 0) (nI 0) pg pla sou fou (nI 1) ) (cwV 2 hts (g_V t_784 t_786 s_22 t_6 t_787) rfl rfl rfl (by decide +kernel) ⟨by decide, by decide⟩) (xP_v hP hK hD 0 rfl rfl) rfl rfl hl.1 rfl (lv_room (Nat.le_of_ble_eq_true rfl)) d_M_axle_18 ⟨Nat.le_refl _, Nat.le_refl _⟩) hS (fun q _ h => xA_up hS.1 q h) (fun q h => xA_up hS.1 q h) (fun r18 u18 t H1 locs1 ht hvm q18 hB hz1 hk1 hS => ?_)
    obtain ⟨hP1, hK1, hD1⟩ := hB
    rw [ht] at hP1
    have hD : va_D (xA 9 am s.heap.size) (mw_ am cm (nI 1) mw mwr mfl mact (nI 1) (-1) (nI 0) mlog mlive had (nI 0) (-1) (nI 0) (nI 0) (nI 0) pg pla sou fou) := hD1.weaken (fun _ q _ h => xA_up hSz _ h)
    have hP : va_P (dC, dI) vwCl (mw_ am cm (nI 1) mw mwr mfl mact (nI 1) (-1) (nI 0) mlog mlive had (nI 0) (-1) (nI 0) (nI 0) (nI 0) pg pla sou fou) H1 := hP1
    generalize H1 = H at hP hS ⊢
    generalize locs1 = locs at hS ⊢
    subst q18
    refine lv_if_ne (tgt := 53) hx hb d_M_axle_21 (by decide) (fun c21 => ?_) (fun c21 => ?_)
    ·
      have c21 := cz_ne_t (by omega) c21
      refine lv_iconst (v := nI 0) hx hb d_M_axle_53 (by decide) ?_
      exact W.iret (v := nI 0) hx hb hr (fun t ht hW => ⟨⟨nI 0, (), rfl, by first | rfl | trivial | omega, ⟨by rw [ht]; exact hP, va_K.moved hW.alike hK, hD⟩⟩, hS.F ht⟩) hS.2.2 d_M_axle_54
    ·
      exact absurd c21 (by decide)
set_option maxHeartbeats 4000000 in
set_option maxRecDepth 100000 in
theorem c_M_close_ok (l : Launch) (dC : Nat → ClassId) (dI : Nat → Nat → Nat) (am cm : Nat → Nat) (sz : Nat) (th : Int32) (mw mwr mfl mact : Nat → Int32) (on cut mrec : Int32) (mlog mlive had : Nat → Int32) (mser mcur mrd mwt worn : Int32) (pg : Nat → Int32) (pla sou fou : Int32) (plate tare product clock : Int32) (h1 : (nI 0 ≤ tare ∧ tare ≤ nI 216000)) (h2 : (nI 0 ≤ product ∧ product ≤ nI 39)) (h3 : (nI 0 ≤ clock ∧ clock ≤ nI 67108863)) : Met l y_M_close w_M_close ({ frames := 1, cells := 0, slots := 0, locals := 22 }) (xP (dC, dI) vwCl (mt cm) (mw_ am cm th mw mwr mfl mact (nI 1) (-1) (nI 0) mlog mlive had (nI 0) (-1) (nI 0) (nI 0) (nI 0) pg pla sou fou) sz [.ref (am 0), .int plate, .int tare, .int product, .int clock]) (va_Qi (fun r (u : Unit) => r = nI 0) (fun (u : Unit) (t : State) => xB (dC, dI) vwCl (mt cm) (xA 9 am sz) (mw_ am cm (nI 0) mw mwr mfl mact (nI 1) (-1) (nI 0) mlog mlive had (nI 0) (-1) (nI 0) (nI 0) (nI 0) pg pla sou fou) t) (xA 9 am sz)) 0 0 (xA 9 am sz) := by
  refine Met.ofW (cc := b_M_close) (maxL := 7) (ret := (some (.int))) (by decide) rfl ?_
  intro P e s m args below meth c0 s₁ B hml hv
  obtain ⟨rfl, hsz, hP, hK, hD0⟩ := hv
  have hx := B.exec
  have hb := B.bytes
  have hr := B.returns
  have hts := atoms_spec (ws := w_M_close) B.pre
  have hown : s.vm.findClass R_M = some m.cls := findClass_of_methodNamed B.named
  have hlocks := B.notSynchronized
  subst hsz
  have hD := mw_D (sz := s.heap.size) hD0
  have hS : va_S (xA 9 am s.heap.size) s.heap s.heap [] := va_S.rf
  have hl := lv_entry ([.ref (am 0), .int plate, .int tare, .int product, .int clock]) (n := 7) (Nat.le_of_ble_eq_true rfl)
  rw [lg_entry_eq]
  generalize (lg_sl ([.ref (am 0), .int plate, .int tare, .int product, .int clock]) ++ List.replicate (7 - (lg_sl ([.ref (am 0), .int plate, .int tare, .int product, .int clock])).length) Slot.unset).toArray = ls at hl ⊢
  have hl : lv_has ls 7 [(0, .ref (am 0)), (1, .int plate), (2, .int tare), (3, .int product), (4, .int clock)] := hl
  refine lv_iload_n hx hb d_M_close_0 rfl (lv_at hl 2 rfl) ?_
  refine lv_iconst (v := nI 0) hx hb d_M_close_1 (by decide) ?_
  refine lv_ldc (v := nI 216000) hx hb hown (hts (.constant R_M 141 216000) (List.mem_cons_of_mem _ t_792)) d_M_close_2 ?_
  refine vp_callSi (va_runS (As := [.int tare, .int (nI 0), .int (nI 216000)]) (rest := []) ⟨hx, hb, hml, hown, hts⟩ (c_M_isIn l dC dI tare (nI 0) (nI 216000) ) (cwS 3 hts (g_S t_781 t_782 t_6 t_783) rfl rfl rfl (by decide +kernel) ⟨by decide, by decide⟩) (xR_s (va_P.sub hP [] rfl) (hK.sub [] rfl)) rfl rfl hl.1 rfl (lv_room (Nat.le_of_ble_eq_true rfl)) d_M_close_4 ⟨Nat.le_refl _, Nat.le_refl _⟩).run (fun r4 q4 => ?_)
  obtain ⟨rfl, -⟩ := q4.resolve_right (fun z => z.2 (h1))
  refine lv_if_eq (tgt := 35) hx hb d_M_close_7 (by decide) (fun c7 => ?_) (fun c7 => ?_)
  ·
    exact absurd c7 (by decide)
  ·
    refine lv_iload_n hx hb d_M_close_10 rfl (lv_at hl 3 rfl) ?_
    refine lv_iconst (v := nI 0) hx hb d_M_close_11 (by decide) ?_
    refine lv_bipush (v := nI 39) hx hb d_M_close_12 (by decide) ?_
    refine vp_callSi (va_runS (As := [.int product, .int (nI 0), .int (nI 39)]) (rest := []) ⟨hx, hb, hml, hown, hts⟩ (c_M_isIn l dC dI product (nI 0) (nI 39) ) (cwS 3 hts (g_S t_781 t_782 t_6 t_783) rfl rfl rfl (by decide +kernel) ⟨by decide, by decide⟩) (xR_s (va_P.sub hP [] rfl) (hK.sub [] rfl)) rfl rfl hl.1 rfl (lv_room (Nat.le_of_ble_eq_true rfl)) d_M_close_14 ⟨Nat.le_refl _, Nat.le_refl _⟩).run (fun r14 q14 => ?_)
    obtain ⟨rfl, -⟩ := q14.resolve_right (fun z => z.2 (h2))
    refine lv_if_eq (tgt := 35) hx hb d_M_close_17 (by decide) (fun c17 => ?_) (fun c17 => ?_)
    ·
      exact absurd c17 (by decide)
    ·
      refine lv_iload hx hb d_M_close_20 (lv_at hl 4 rfl) ?_
      refine lv_iconst (v := nI 0) hx hb d_M_close_22 (by decide) ?_
      refine lv_ldc (v := nI 67108863) hx hb hown (hts (.constant R_M 142 67108863) (List.mem_cons_of_mem _ t_793)) d_M_close_23 ?_
      refine vp_callSi (va_runS (As := [.int clock, .int (nI 0), .int (nI 67108863)]) (rest := []) ⟨hx, hb, hml, hown, hts⟩ (c_M_isIn l dC dI clock (nI 0) (nI 67108863) ) (cwS 3 hts (g_S t_781 t_782 t_6 t_783) rfl rfl rfl (by decide +kernel) ⟨by decide, by decide⟩) (xR_s (va_P.sub hP [] rfl) (hK.sub [] rfl)) rfl rfl hl.1 rfl (lv_room (Nat.le_of_ble_eq_true rfl)) d_M_close_25 ⟨Nat.le_refl _, Nat.le_refl _⟩).run (fun r25 q25 => ?_)
      obtain ⟨rfl, -⟩ := q25.resolve_right (fun z => z.2 (h3))
      refine lv_if_eq (tgt := 35) hx hb d_M_close_28 (by decide) (fun c28 => ?_) (fun c28 => ?_)
      ·
        exact absurd c28 (by decide)
      ·
        refine lv_iconst (v := nI 1) hx hb d_M_close_31 (by decide) ?_
        refine lv_goto (tgt := 36) hx hb d_M_close_32 (by decide) ?_
        refine lv_istore hx hb d_M_close_36 hl (by decide) rfl (fun ls hl => ?_)
        have hl : lv_has ls 7 [(5, .int (nI 1)), (0, .ref (am 0)), (1, .int plate), (2, .int tare), (3, .int product), (4, .int clock)] := hl
        refine lv_aload_n hx hb d_M_close_38 rfl (lv_at hl 1 rfl) ?_
        refine lv_iconst (v := nI 1) hx hb d_M_close_39 (by decide) ?_
        refine lv_iload hx hb d_M_close_40 (lv_at hl 0 rfl) ?_
        refine lv_if_ne (tgt := 49) hx hb d_M_close_42 (by decide) (fun c42 => ?_) (fun c42 => ?_)
        ·
          have c42 := cz_ne_t (by omega) c42
          refine lv_iconst (v := nI 0) hx hb d_M_close_49 (by decide) ?_
          have hSz := hS.1
          refine va_calli (va_runV (C := R_M) (As := [.int (nI 1), .int (nI 0)]) (rest := []) ⟨hx, hb, hml, hown, hts⟩ (c_M_fails_0 l dC dI am cm s.heap.size th mw mwr mfl mact (nI 1) (-1) (nI 0) mlog mlive had (nI 0) (-1) (nI 0) (nI 0) (nI 0) pg pla sou fou (nI 1) ) (cwV 2 hts (g_V t_784 t_786 s_22 t_6 t_787) rfl rfl rfl (by decide +kernel) ⟨by decide, by decide⟩) (xP_v hP hK hD 0 rfl rfl) rfl rfl hl.1 rfl (lv_room (Nat.le_of_ble_eq_true rfl)) d_M_close_50 ⟨Nat.le_refl _, Nat.le_refl _⟩) hS (fun q _ h => xA_up hS.1 q h) (fun q h => xA_up hS.1 q h) (fun r50 u50 t H1 locs1 ht hvm q50 hB hz1 hk1 hS => ?_)
          obtain ⟨hP1, hK1, hD1⟩ := hB
          rw [ht] at hP1
          have hD : va_D (xA 9 am s.heap.size) (mw_ am cm (nI 0) mw mwr mfl mact (nI 1) (-1) (nI 0) mlog mlive had (nI 0) (-1) (nI 0) (nI 0) (nI 0) pg pla sou fou) := hD1.weaken (fun _ q _ h => xA_up hSz _ h)
          have hP : va_P (dC, dI) vwCl (mw_ am cm (nI 0) mw mwr mfl mact (nI 1) (-1) (nI 0) mlog mlive had (nI 0) (-1) (nI 0) (nI 0) (nI 0) pg pla sou fou) H1 := hP1
          generalize H1 = H at hP hS ⊢
          generalize locs1 = locs at hS ⊢
          subst q50
          refine lv_if_ne (tgt := 76) hx hb d_M_close_53 (by decide) (fun c53 => ?_) (fun c53 => ?_)
          ·
            exact absurd c53 (by decide)
          ·
            have c53 := cz_ne_f (by omega) c53
            refine lv_aload_n hx hb d_M_close_56 rfl (lv_at hl 1 rfl) ?_
            refine lv_iconst (v := nI 2) hx hb d_M_close_57 (by decide) ?_
            refine lv_aload_n hx hb d_M_close_58 rfl (lv_at hl 1 rfl) ?_
            refine va_get (D := (dC, dI)) (ci := 5) (v := .int (nI 1)) (C := R_M) (T := F_M) (N := 20) hx hb hts (fun w h => List.mem_cons_of_mem _ (in_M w h)) hown hK hP 0 rfl rfl 5 (by decide) (hts (.fieldLink R_M 23 R_M "on" "Z") (List.mem_cons_of_mem _ t_717)) (fun _ h9 => h9) rfl d_M_close_59 ?_
            refine lv_if_ne (tgt := 69) hx hb d_M_close_62 (by decide) (fun c62 => ?_) (fun c62 => ?_)
            ·
              have c62 := cz_ne_t (by omega) c62
              refine lv_iconst (v := nI 0) hx hb d_M_close_69 (by decide) ?_
              have hSz := hS.1
              refine va_calli (va_runV (C := R_M) (As := [.int (nI 2), .int (nI 0)]) (rest := []) ⟨hx, hb, hml, hown, hts⟩ (c_M_fails_0 l dC dI am cm H.size (nI 0) mw mwr mfl mact (nI 1) (-1) (nI 0) mlog mlive had (nI 0) (-1) (nI 0) (nI 0) (nI 0) pg pla sou fou (nI 2) ) (cwV 2 hts (g_V t_784 t_786 s_22 t_6 t_787) rfl rfl rfl (by decide +kernel) ⟨by decide, by decide⟩) (xP_v hP hK hD 0 rfl rfl) rfl rfl hl.1 rfl (lv_room (Nat.le_of_ble_eq_true rfl)) d_M_close_70 ⟨Nat.le_refl _, Nat.le_refl _⟩) hS (fun q _ h => xA_up hS.1 q h) (fun q h => xA_up hS.1 q h) (fun r70 u70 t H1 locs1 ht hvm q70 hB hz1 hk1 hS => ?_)
              obtain ⟨hP1, hK1, hD1⟩ := hB
              rw [ht] at hP1
              have hD : va_D (xA 9 am s.heap.size) (mw_ am cm (nI 0) mw mwr mfl mact (nI 1) (-1) (nI 0) mlog mlive had (nI 0) (-1) (nI 0) (nI 0) (nI 0) pg pla sou fou) := hD1.weaken (fun _ q _ h => xA_up hSz _ h)
              have hP : va_P (dC, dI) vwCl (mw_ am cm (nI 0) mw mwr mfl mact (nI 1) (-1) (nI 0) mlog mlive had (nI 0) (-1) (nI 0) (nI 0) (nI 0) pg pla sou fou) H1 := hP1
              generalize H1 = H at hP hS ⊢
              generalize locs1 = locs at hS ⊢
              subst q70
              refine lv_if_eq (tgt := 78) hx hb d_M_close_73 (by decide) (fun c73 => ?_) (fun c73 => ?_)
              ·
                have c73 := cz_eq_t (by omega) c73
                refine lv_aload_n hx hb d_M_close_78 rfl (lv_at hl 1 rfl) ?_
                refine va_get (D := (dC, dI)) (ci := 5) (v := .int (nI 0)) (C := R_M) (T := F_M) (N := 20) hx hb hts (fun w h => List.mem_cons_of_mem _ (in_M w h)) hown hK hP 0 rfl rfl 13 (by decide) (hts (.fieldLink R_M 58 R_M "readings" "I") (List.mem_cons_of_mem _ t_725)) (fun _ h9 => h9) rfl d_M_close_79 ?_
                refine lv_if_eq (tgt := 114) hx hb d_M_close_82 (by decide) (fun c82 => ?_) (fun c82 => ?_)
                ·
                  have c82 := cz_eq_t (by omega) c82
                  refine lv_iconst (v := nI 0) hx hb d_M_close_114 (by decide) ?_
                  exact W.iret (v := nI 0) hx hb hr (fun t ht hW => ⟨⟨nI 0, (), rfl, by first | rfl | trivial | omega, ⟨by rw [ht]; exact hP, va_K.moved hW.alike hK, hD⟩⟩, hS.F ht⟩) hS.2.2 d_M_close_115
                ·
                  exact absurd c82 (by decide)
              ·
                exact absurd c73 (by decide)
            ·
              exact absurd c62 (by decide)
        ·
          exact absurd c42 (by decide)
set_option maxHeartbeats 4000000 in
set_option maxRecDepth 100000 in
theorem c_M_close_bad (l : Launch) (dC : Nat → ClassId) (dI : Nat → Nat → Nat) (am cm : Nat → Nat) (sz : Nat) (th : Int32) (mw mwr mfl mact : Nat → Int32) (on cut mrec : Int32) (mlog mlive had : Nat → Int32) (mser mcur mrd mwt worn : Int32) (pg : Nat → Int32) (pla sou fou : Int32) (plate tare product clock : Int32) (hbad : ¬ ((nI 0 ≤ tare ∧ tare ≤ nI 216000) ∧ (nI 0 ≤ product ∧ product ≤ nI 39) ∧ (nI 0 ≤ clock ∧ clock ≤ nI 67108863))) : Met l y_M_close w_M_close ({ frames := 1, cells := 0, slots := 0, locals := 22 }) (xP (dC, dI) vwCl (mt cm) (mw_ am cm th mw mwr mfl mact (nI 1) (-1) (nI 0) mlog mlive had (nI 0) (-1) (nI 0) (nI 0) (nI 0) pg pla sou fou) sz [.ref (am 0), .int plate, .int tare, .int product, .int clock]) (va_Qi (fun r (u : Unit) => r = nI 0) (fun (u : Unit) (t : State) => xB (dC, dI) vwCl (mt cm) (xA 9 am sz) (mw_ am cm (nI 1) mw mwr mfl mact (nI 1) (-1) (nI 0) mlog mlive had (nI 0) (-1) (nI 0) (nI 0) (nI 0) pg pla sou fou) t) (xA 9 am sz)) 0 0 (xA 9 am sz) := by
  refine Met.ofW (cc := b_M_close) (maxL := 7) (ret := (some (.int))) (by decide) rfl ?_
  intro P e s m args below meth c0 s₁ B hml hv
  obtain ⟨rfl, hsz, hP, hK, hD0⟩ := hv
  have hx := B.exec
  have hb := B.bytes
  have hr := B.returns
  have hts := atoms_spec (ws := w_M_close) B.pre
  have hown : s.vm.findClass R_M = some m.cls := findClass_of_methodNamed B.named
  have hlocks := B.notSynchronized
  subst hsz
  have hD := mw_D (sz := s.heap.size) hD0
  have hS : va_S (xA 9 am s.heap.size) s.heap s.heap [] := va_S.rf
  have hl := lv_entry ([.ref (am 0), .int plate, .int tare, .int product, .int clock]) (n := 7) (Nat.le_of_ble_eq_true rfl)
  rw [lg_entry_eq]
  generalize (lg_sl ([.ref (am 0), .int plate, .int tare, .int product, .int clock]) ++ List.replicate (7 - (lg_sl ([.ref (am 0), .int plate, .int tare, .int product, .int clock])).length) Slot.unset).toArray = ls at hl ⊢
  have hl : lv_has ls 7 [(0, .ref (am 0)), (1, .int plate), (2, .int tare), (3, .int product), (4, .int clock)] := hl
  refine lv_iload_n hx hb d_M_close_0 rfl (lv_at hl 2 rfl) ?_
  refine lv_iconst (v := nI 0) hx hb d_M_close_1 (by decide) ?_
  refine lv_ldc (v := nI 216000) hx hb hown (hts (.constant R_M 141 216000) (List.mem_cons_of_mem _ t_792)) d_M_close_2 ?_
  refine vp_callSi (va_runS (As := [.int tare, .int (nI 0), .int (nI 216000)]) (rest := []) ⟨hx, hb, hml, hown, hts⟩ (c_M_isIn l dC dI tare (nI 0) (nI 216000) ) (cwS 3 hts (g_S t_781 t_782 t_6 t_783) rfl rfl rfl (by decide +kernel) ⟨by decide, by decide⟩) (xR_s (va_P.sub hP [] rfl) (hK.sub [] rfl)) rfl rfl hl.1 rfl (lv_room (Nat.le_of_ble_eq_true rfl)) d_M_close_4 ⟨Nat.le_refl _, Nat.le_refl _⟩).run (fun r4 q4 => ?_)
  rcases q4 with ⟨rfl, h4⟩ | ⟨rfl, h4⟩
  ·
    refine lv_if_eq (tgt := 35) hx hb d_M_close_7 (by decide) (fun c7 => ?_) (fun c7 => ?_)
    ·
      exact absurd c7 (by decide)
    ·
      refine lv_iload_n hx hb d_M_close_10 rfl (lv_at hl 3 rfl) ?_
      refine lv_iconst (v := nI 0) hx hb d_M_close_11 (by decide) ?_
      refine lv_bipush (v := nI 39) hx hb d_M_close_12 (by decide) ?_
      refine vp_callSi (va_runS (As := [.int product, .int (nI 0), .int (nI 39)]) (rest := []) ⟨hx, hb, hml, hown, hts⟩ (c_M_isIn l dC dI product (nI 0) (nI 39) ) (cwS 3 hts (g_S t_781 t_782 t_6 t_783) rfl rfl rfl (by decide +kernel) ⟨by decide, by decide⟩) (xR_s (va_P.sub hP [] rfl) (hK.sub [] rfl)) rfl rfl hl.1 rfl (lv_room (Nat.le_of_ble_eq_true rfl)) d_M_close_14 ⟨Nat.le_refl _, Nat.le_refl _⟩).run (fun r14 q14 => ?_)
      rcases q14 with ⟨rfl, h14⟩ | ⟨rfl, h14⟩
      ·
        refine lv_if_eq (tgt := 35) hx hb d_M_close_17 (by decide) (fun c17 => ?_) (fun c17 => ?_)
        ·
          exact absurd c17 (by decide)
        ·
          refine lv_iload hx hb d_M_close_20 (lv_at hl 4 rfl) ?_
          refine lv_iconst (v := nI 0) hx hb d_M_close_22 (by decide) ?_
          refine lv_ldc (v := nI 67108863) hx hb hown (hts (.constant R_M 142 67108863) (List.mem_cons_of_mem _ t_793)) d_M_close_23 ?_
          refine vp_callSi (va_runS (As := [.int clock, .int (nI 0), .int (nI 67108863)]) (rest := []) ⟨hx, hb, hml, hown, hts⟩ (c_M_isIn l dC dI clock (nI 0) (nI 67108863) ) (cwS 3 hts (g_S t_781 t_782 t_6 t_783) rfl rfl rfl (by decide +kernel) ⟨by decide, by decide⟩) (xR_s (va_P.sub hP [] rfl) (hK.sub [] rfl)) rfl rfl hl.1 rfl (lv_room (Nat.le_of_ble_eq_true rfl)) d_M_close_25 ⟨Nat.le_refl _, Nat.le_refl _⟩).run (fun r25 q25 => ?_)
          rcases q25 with ⟨rfl, h25⟩ | ⟨rfl, h25⟩
          ·
            refine lv_if_eq (tgt := 35) hx hb d_M_close_28 (by decide) (fun c28 => ?_) (fun c28 => ?_)
            ·
              exact absurd c28 (by decide)
            ·
              exact absurd ⟨h4, h14, h25⟩ hbad
          ·
            refine lv_if_eq (tgt := 35) hx hb d_M_close_28 (by decide) (fun c28 => ?_) (fun c28 => ?_)
            ·
              refine lv_iconst (v := nI 0) hx hb d_M_close_35 (by decide) ?_
              refine lv_istore hx hb d_M_close_36 hl (by decide) rfl (fun ls hl => ?_)
              have hl : lv_has ls 7 [(5, .int (nI 0)), (0, .ref (am 0)), (1, .int plate), (2, .int tare), (3, .int product), (4, .int clock)] := hl
              refine lv_aload_n hx hb d_M_close_38 rfl (lv_at hl 1 rfl) ?_
              refine lv_iconst (v := nI 1) hx hb d_M_close_39 (by decide) ?_
              refine lv_iload hx hb d_M_close_40 (lv_at hl 0 rfl) ?_
              refine lv_if_ne (tgt := 49) hx hb d_M_close_42 (by decide) (fun c42 => ?_) (fun c42 => ?_)
              ·
                exact absurd c42 (by decide)
              ·
                have c42 := cz_ne_f (by omega) c42
                refine lv_iconst (v := nI 1) hx hb d_M_close_45 (by decide) ?_
                refine lv_goto (tgt := 50) hx hb d_M_close_46 (by decide) ?_
                have hSz := hS.1
                refine va_calli (va_runV (C := R_M) (As := [.int (nI 1), .int (nI 1)]) (rest := []) ⟨hx, hb, hml, hown, hts⟩ (c_M_fails_1 l dC dI am cm s.heap.size th mw mwr mfl mact (nI 1) (-1) (nI 0) mlog mlive had (nI 0) (-1) (nI 0) (nI 0) (nI 0) pg pla sou fou (nI 1) ) (cwV 2 hts (g_V t_784 t_786 s_22 t_6 t_787) rfl rfl rfl (by decide +kernel) ⟨by decide, by decide⟩) (xP_v hP hK hD 0 rfl rfl) rfl rfl hl.1 rfl (lv_room (Nat.le_of_ble_eq_true rfl)) d_M_close_50 ⟨Nat.le_refl _, Nat.le_refl _⟩) hS (fun q _ h => xA_up hS.1 q h) (fun q h => xA_up hS.1 q h) (fun r50 u50 t H1 locs1 ht hvm q50 hB hz1 hk1 hS => ?_)
                obtain ⟨hP1, hK1, hD1⟩ := hB
                rw [ht] at hP1
                have hD : va_D (xA 9 am s.heap.size) (mw_ am cm (nI 1) mw mwr mfl mact (nI 1) (-1) (nI 0) mlog mlive had (nI 0) (-1) (nI 0) (nI 0) (nI 0) pg pla sou fou) := hD1.weaken (fun _ q _ h => xA_up hSz _ h)
                have hP : va_P (dC, dI) vwCl (mw_ am cm (nI 1) mw mwr mfl mact (nI 1) (-1) (nI 0) mlog mlive had (nI 0) (-1) (nI 0) (nI 0) (nI 0) pg pla sou fou) H1 := hP1
                generalize H1 = H at hP hS ⊢
                generalize locs1 = locs at hS ⊢
                subst q50
                refine lv_if_ne (tgt := 76) hx hb d_M_close_53 (by decide) (fun c53 => ?_) (fun c53 => ?_)
                ·
                  have c53 := cz_ne_t (by omega) c53
                  refine lv_iconst (v := nI 0) hx hb d_M_close_76 (by decide) ?_
                  exact W.iret (v := nI 0) hx hb hr (fun t ht hW => ⟨⟨nI 0, (), rfl, by first | rfl | trivial | omega, ⟨by rw [ht]; exact hP, va_K.moved hW.alike hK, hD⟩⟩, hS.F ht⟩) hS.2.2 d_M_close_77
                ·
                  exact absurd c53 (by decide)
            ·
              exact absurd c28 (by decide)
      ·
        refine lv_if_eq (tgt := 35) hx hb d_M_close_17 (by decide) (fun c17 => ?_) (fun c17 => ?_)
        ·
          refine lv_iconst (v := nI 0) hx hb d_M_close_35 (by decide) ?_
          refine lv_istore hx hb d_M_close_36 hl (by decide) rfl (fun ls hl => ?_)
          have hl : lv_has ls 7 [(5, .int (nI 0)), (0, .ref (am 0)), (1, .int plate), (2, .int tare), (3, .int product), (4, .int clock)] := hl
          refine lv_aload_n hx hb d_M_close_38 rfl (lv_at hl 1 rfl) ?_
          refine lv_iconst (v := nI 1) hx hb d_M_close_39 (by decide) ?_
          refine lv_iload hx hb d_M_close_40 (lv_at hl 0 rfl) ?_
          refine lv_if_ne (tgt := 49) hx hb d_M_close_42 (by decide) (fun c42 => ?_) (fun c42 => ?_)
          ·
            exact absurd c42 (by decide)
          ·
            have c42 := cz_ne_f (by omega) c42
            refine lv_iconst (v := nI 1) hx hb d_M_close_45 (by decide) ?_
            refine lv_goto (tgt := 50) hx hb d_M_close_46 (by decide) ?_
            have hSz := hS.1
            refine va_calli (va_runV (C := R_M) (As := [.int (nI 1), .int (nI 1)]) (rest := []) ⟨hx, hb, hml, hown, hts⟩ (c_M_fails_1 l dC dI am cm s.heap.size th mw mwr mfl mact (nI 1) (-1) (nI 0) mlog mlive had (nI 0) (-1) (nI 0) (nI 0) (nI 0) pg pla sou fou (nI 1) ) (cwV 2 hts (g_V t_784 t_786 s_22 t_6 t_787) rfl rfl rfl (by decide +kernel) ⟨by decide, by decide⟩) (xP_v hP hK hD 0 rfl rfl) rfl rfl hl.1 rfl (lv_room (Nat.le_of_ble_eq_true rfl)) d_M_close_50 ⟨Nat.le_refl _, Nat.le_refl _⟩) hS (fun q _ h => xA_up hS.1 q h) (fun q h => xA_up hS.1 q h) (fun r50 u50 t H1 locs1 ht hvm q50 hB hz1 hk1 hS => ?_)
            obtain ⟨hP1, hK1, hD1⟩ := hB
            rw [ht] at hP1
            have hD : va_D (xA 9 am s.heap.size) (mw_ am cm (nI 1) mw mwr mfl mact (nI 1) (-1) (nI 0) mlog mlive had (nI 0) (-1) (nI 0) (nI 0) (nI 0) pg pla sou fou) := hD1.weaken (fun _ q _ h => xA_up hSz _ h)
            have hP : va_P (dC, dI) vwCl (mw_ am cm (nI 1) mw mwr mfl mact (nI 1) (-1) (nI 0) mlog mlive had (nI 0) (-1) (nI 0) (nI 0) (nI 0) pg pla sou fou) H1 := hP1
            generalize H1 = H at hP hS ⊢
            generalize locs1 = locs at hS ⊢
            subst q50
            refine lv_if_ne (tgt := 76) hx hb d_M_close_53 (by decide) (fun c53 => ?_) (fun c53 => ?_)
            ·
              have c53 := cz_ne_t (by omega) c53
              refine lv_iconst (v := nI 0) hx hb d_M_close_76 (by decide) ?_
              exact W.iret (v := nI 0) hx hb hr (fun t ht hW => ⟨⟨nI 0, (), rfl, by first | rfl | trivial | omega, ⟨by rw [ht]; exact hP, va_K.moved hW.alike hK, hD⟩⟩, hS.F ht⟩) hS.2.2 d_M_close_77
            ·
              exact absurd c53 (by decide)
        ·
          exact absurd c17 (by decide)
  ·
    refine lv_if_eq (tgt := 35) hx hb d_M_close_7 (by decide) (fun c7 => ?_) (fun c7 => ?_)
    ·
      refine lv_iconst (v := nI 0) hx hb d_M_close_35 (by decide) ?_
      refine lv_istore hx hb d_M_close_36 hl (by decide) rfl (fun ls hl => ?_)
      have hl : lv_has ls 7 [(5, .int (nI 0)), (0, .ref (am 0)), (1, .int plate), (2, .int tare), (3, .int product), (4, .int clock)] := hl
      refine lv_aload_n hx hb d_M_close_38 rfl (lv_at hl 1 rfl) ?_
      refine lv_iconst (v := nI 1) hx hb d_M_close_39 (by decide) ?_
      refine lv_iload hx hb d_M_close_40 (lv_at hl 0 rfl) ?_
      refine lv_if_ne (tgt := 49) hx hb d_M_close_42 (by decide) (fun c42 => ?_) (fun c42 => ?_)
      ·
        exact absurd c42 (by decide)
      ·
        have c42 := cz_ne_f (by omega) c42
        refine lv_iconst (v := nI 1) hx hb d_M_close_45 (by decide) ?_
        refine lv_goto (tgt := 50) hx hb d_M_close_46 (by decide) ?_
        have hSz := hS.1
        refine va_calli (va_runV (C := R_M) (As := [.int (nI 1), .int (nI 1)]) (rest := []) ⟨hx, hb, hml, hown, hts⟩ (c_M_fails_1 l dC dI am cm s.heap.size th mw mwr mfl mact (nI 1) (-1) (nI 0) mlog mlive had (nI 0) (-1) (nI 0) (nI 0) (nI 0) pg pla sou fou (nI 1) ) (cwV 2 hts (g_V t_784 t_786 s_22 t_6 t_787) rfl rfl rfl (by decide +kernel) ⟨by decide, by decide⟩) (xP_v hP hK hD 0 rfl rfl) rfl rfl hl.1 rfl (lv_room (Nat.le_of_ble_eq_true rfl)) d_M_close_50 ⟨Nat.le_refl _, Nat.le_refl _⟩) hS (fun q _ h => xA_up hS.1 q h) (fun q h => xA_up hS.1 q h) (fun r50 u50 t H1 locs1 ht hvm q50 hB hz1 hk1 hS => ?_)
        obtain ⟨hP1, hK1, hD1⟩ := hB
        rw [ht] at hP1
        have hD : va_D (xA 9 am s.heap.size) (mw_ am cm (nI 1) mw mwr mfl mact (nI 1) (-1) (nI 0) mlog mlive had (nI 0) (-1) (nI 0) (nI 0) (nI 0) pg pla sou fou) := hD1.weaken (fun _ q _ h => xA_up hSz _ h)
        have hP : va_P (dC, dI) vwCl (mw_ am cm (nI 1) mw mwr mfl mact (nI 1) (-1) (nI 0) mlog mlive had (nI 0) (-1) (nI 0) (nI 0) (nI 0) pg pla sou fou) H1 := hP1
        generalize H1 = H at hP hS ⊢
        generalize locs1 = locs at hS ⊢
        subst q50
        refine lv_if_ne (tgt := 76) hx hb d_M_close_53 (by decide) (fun c53 => ?_) (fun c53 => ?_)
        ·
          have c53 := cz_ne_t (by omega) c53
          refine lv_iconst (v := nI 0) hx hb d_M_close_76 (by decide) ?_
          exact W.iret (v := nI 0) hx hb hr (fun t ht hW => ⟨⟨nI 0, (), rfl, by first | rfl | trivial | omega, ⟨by rw [ht]; exact hP, va_K.moved hW.alike hK, hD⟩⟩, hS.F ht⟩) hS.2.2 d_M_close_77
        ·
          exact absurd c53 (by decide)
    ·
      exact absurd c7 (by decide)
set_option maxHeartbeats 4000000 in
set_option maxRecDepth 100000 in
theorem c_M_annul_ok (l : Launch) (dC : Nat → ClassId) (dI : Nat → Nat → Nat) (am cm : Nat → Nat) (sz : Nat) (th : Int32) (mw mwr mfl mact : Nat → Int32) (on cut mrec : Int32) (mlog mlive had : Nat → Int32) (mser mcur mrd mwt worn : Int32) (pg : Nat → Int32) (pla sou fou : Int32) (tno rea : Int32) (hok : (nI 0 ≤ rea ∧ rea ≤ nI 3)) : Met l y_M_annul w_M_annul ({ frames := 1, cells := 0, slots := 0, locals := 23 }) (xP (dC, dI) vwCl (mt cm) (mw_ am cm th mw mwr mfl mact (nI 1) (-1) (nI 0) mlog mlive had (nI 0) (-1) (nI 0) (nI 0) (nI 0) pg pla sou fou) sz [.ref (am 0), .int tno, .int rea]) (va_Qi (fun r (u : Unit) => r = nI 0) (fun (u : Unit) (t : State) => xB (dC, dI) vwCl (mt cm) (xA 9 am sz) (mw_ am cm (nI 0) mw mwr mfl mact (nI 1) (-1) (nI 0) mlog mlive had (nI 0) (-1) (nI 0) (nI 0) (nI 0) pg pla sou fou) t) (xA 9 am sz)) 0 0 (xA 9 am sz) := by
  refine Met.ofW (cc := b_M_annul) (maxL := 4) (ret := (some (.int))) (by decide) rfl ?_
  intro P e s m args below meth c0 s₁ B hml hv
  obtain ⟨rfl, hsz, hP, hK, hD0⟩ := hv
  have hx := B.exec
  have hb := B.bytes
  have hr := B.returns
  have hts := atoms_spec (ws := w_M_annul) B.pre
  have hown : s.vm.findClass R_M = some m.cls := findClass_of_methodNamed B.named
  have hlocks := B.notSynchronized
  subst hsz
  have hD := mw_D (sz := s.heap.size) hD0
  have hS : va_S (xA 9 am s.heap.size) s.heap s.heap [] := va_S.rf
  have hl := lv_entry ([.ref (am 0), .int tno, .int rea]) (n := 4) (Nat.le_of_ble_eq_true rfl)
  rw [lg_entry_eq]
  generalize (lg_sl ([.ref (am 0), .int tno, .int rea]) ++ List.replicate (4 - (lg_sl ([.ref (am 0), .int tno, .int rea])).length) Slot.unset).toArray = ls at hl ⊢
  have hl : lv_has ls 4 [(0, .ref (am 0)), (1, .int tno), (2, .int rea)] := hl
  refine lv_aload_n hx hb d_M_annul_0 rfl (lv_at hl 0 rfl) ?_
  refine lv_iconst (v := nI 1) hx hb d_M_annul_1 (by decide) ?_
  refine lv_iload_n hx hb d_M_annul_2 rfl (lv_at hl 2 rfl) ?_
  refine lv_iconst (v := nI 0) hx hb d_M_annul_3 (by decide) ?_
  refine lv_iconst (v := nI 3) hx hb d_M_annul_4 (by decide) ?_
  refine vp_callSi (va_runS (As := [.int rea, .int (nI 0), .int (nI 3)]) (rest := [.int (nI 1), .ref (am 0)]) ⟨hx, hb, hml, hown, hts⟩ (c_M_isIn l dC dI rea (nI 0) (nI 3) ) (cwS 3 hts (g_S t_781 t_782 t_6 t_783) rfl rfl rfl (by decide +kernel) ⟨by decide, by decide⟩) (xR_s (va_P.sub hP [] rfl) (hK.sub [] rfl)) rfl rfl hl.1 rfl (lv_room (Nat.le_of_ble_eq_true rfl)) d_M_annul_5 ⟨Nat.le_refl _, Nat.le_refl _⟩).run (fun r5 q5 => ?_)
  obtain ⟨rfl, -⟩ := q5.resolve_right (fun z => z.2 (hok))
  refine lv_if_ne (tgt := 15) hx hb d_M_annul_8 (by decide) (fun c8 => ?_) (fun c8 => ?_)
  ·
    refine lv_iconst (v := nI 0) hx hb d_M_annul_15 (by decide) ?_
    have hSz := hS.1
    refine va_calli (va_runV (C := R_M) (As := [.int (nI 1), .int (nI 0)]) (rest := []) ⟨hx, hb, hml, hown, hts⟩ (c_M_fails_0 l dC dI am cm s.heap.size th mw mwr mfl mact (nI 1) (-1) (nI 0) mlog mlive had (nI 0) (-1) (nI 0) (nI 0) (nI 0) pg pla sou fou (nI 1) ) (cwV 2 hts (g_V t_784 t_786 s_22 t_6 t_787) rfl rfl rfl (by decide +kernel) ⟨by decide, by decide⟩) (xP_v hP hK hD 0 rfl rfl) rfl rfl hl.1 rfl (lv_room (Nat.le_of_ble_eq_true rfl)) d_M_annul_16 ⟨Nat.le_refl _, Nat.le_refl _⟩) hS (fun q _ h => xA_up hS.1 q h) (fun q h => xA_up hS.1 q h) (fun r16 u16 t H1 locs1 ht hvm q16 hB hz1 hk1 hS => ?_)
    obtain ⟨hP1, hK1, hD1⟩ := hB
    rw [ht] at hP1
    have hD : va_D (xA 9 am s.heap.size) (mw_ am cm (nI 0) mw mwr mfl mact (nI 1) (-1) (nI 0) mlog mlive had (nI 0) (-1) (nI 0) (nI 0) (nI 0) pg pla sou fou) := hD1.weaken (fun _ q _ h => xA_up hSz _ h)
    have hP : va_P (dC, dI) vwCl (mw_ am cm (nI 0) mw mwr mfl mact (nI 1) (-1) (nI 0) mlog mlive had (nI 0) (-1) (nI 0) (nI 0) (nI 0) pg pla sou fou) H1 := hP1
    generalize H1 = H at hP hS ⊢
    generalize locs1 = locs at hS ⊢
    subst q16
    refine lv_if_ne (tgt := 42) hx hb d_M_annul_19 (by decide) (fun c19 => ?_) (fun c19 => ?_)
    ·
      exact absurd c19 (by decide)
    ·
      have c19 := cz_ne_f (by omega) c19
      refine lv_aload_n hx hb d_M_annul_22 rfl (lv_at hl 0 rfl) ?_
      refine lv_iconst (v := nI 2) hx hb d_M_annul_23 (by decide) ?_
      refine lv_aload_n hx hb d_M_annul_24 rfl (lv_at hl 0 rfl) ?_
      refine va_get (D := (dC, dI)) (ci := 5) (v := .int (nI 1)) (C := R_M) (T := F_M) (N := 20) hx hb hts (fun w h => List.mem_cons_of_mem _ (in_M w h)) hown hK hP 0 rfl rfl 5 (by decide) (hts (.fieldLink R_M 23 R_M "on" "Z") (List.mem_cons_of_mem _ t_717)) (fun _ h9 => h9) rfl d_M_annul_25 ?_
      refine lv_if_ne (tgt := 35) hx hb d_M_annul_28 (by decide) (fun c28 => ?_) (fun c28 => ?_)
      ·
        have c28 := cz_ne_t (by omega) c28
        refine lv_iconst (v := nI 0) hx hb d_M_annul_35 (by decide) ?_
        have hSz := hS.1
        refine va_calli (va_runV (C := R_M) (As := [.int (nI 2), .int (nI 0)]) (rest := []) ⟨hx, hb, hml, hown, hts⟩ (c_M_fails_0 l dC dI am cm H.size (nI 0) mw mwr mfl mact (nI 1) (-1) (nI 0) mlog mlive had (nI 0) (-1) (nI 0) (nI 0) (nI 0) pg pla sou fou (nI 2) ) (cwV 2 hts (g_V t_784 t_786 s_22 t_6 t_787) rfl rfl rfl (by decide +kernel) ⟨by decide, by decide⟩) (xP_v hP hK hD 0 rfl rfl) rfl rfl hl.1 rfl (lv_room (Nat.le_of_ble_eq_true rfl)) d_M_annul_36 ⟨Nat.le_refl _, Nat.le_refl _⟩) hS (fun q _ h => xA_up hS.1 q h) (fun q h => xA_up hS.1 q h) (fun r36 u36 t H1 locs1 ht hvm q36 hB hz1 hk1 hS => ?_)
        obtain ⟨hP1, hK1, hD1⟩ := hB
        rw [ht] at hP1
        have hD : va_D (xA 9 am s.heap.size) (mw_ am cm (nI 0) mw mwr mfl mact (nI 1) (-1) (nI 0) mlog mlive had (nI 0) (-1) (nI 0) (nI 0) (nI 0) pg pla sou fou) := hD1.weaken (fun _ q _ h => xA_up hSz _ h)
        have hP : va_P (dC, dI) vwCl (mw_ am cm (nI 0) mw mwr mfl mact (nI 1) (-1) (nI 0) mlog mlive had (nI 0) (-1) (nI 0) (nI 0) (nI 0) pg pla sou fou) H1 := hP1
        generalize H1 = H at hP hS ⊢
        generalize locs1 = locs at hS ⊢
        subst q36
        refine lv_if_eq (tgt := 44) hx hb d_M_annul_39 (by decide) (fun c39 => ?_) (fun c39 => ?_)
        ·
          have c39 := cz_eq_t (by omega) c39
          refine lv_iload_n hx hb d_M_annul_44 rfl (lv_at hl 1 rfl) ?_
          refine lv_iconst (v := nI 1) hx hb d_M_annul_45 (by decide) ?_
          refine lv_icmp_lt (tgt := 74) hx hb d_M_annul_46 (by decide) (fun c46 => ?_) (fun c46 => ?_)
          ·
            refine lv_iconst (v := nI 0) hx hb d_M_annul_74 (by decide) ?_
            exact W.iret (v := nI 0) hx hb hr (fun t ht hW => ⟨⟨nI 0, (), rfl, by first | rfl | trivial | omega, ⟨by rw [ht]; exact hP, va_K.moved hW.alike hK, hD⟩⟩, hS.F ht⟩) hS.2.2 d_M_annul_75
          ·
            refine lv_aload_n hx hb d_M_annul_49 rfl (lv_at hl 0 rfl) ?_
            refine lv_iload_n hx hb d_M_annul_50 rfl (lv_at hl 1 rfl) ?_
            refine vp_callSi (va_runV (C := R_M) (As := [.int tno]) (rest := []) ⟨hx, hb, hml, hown, hts⟩ (c_M_placeOf_f l dC dI am cm (nI 0) mw mwr mfl mact (nI 1) (-1) (nI 0) mlog mlive had (nI 0) (-1) (nI 0) (nI 0) (nI 0) pg pla sou fou tno ) (cwV 1 hts (g_V t_881 t_883 s_42 t_6 t_884) rfl rfl rfl (by decide +kernel) ⟨by decide, by decide⟩) (xR_v hP hK 0 rfl rfl) rfl rfl hl.1 rfl (lv_room (Nat.le_of_ble_eq_true rfl)) d_M_annul_51 ⟨Nat.le_refl _, Nat.le_refl _⟩).run (fun r51 q51 => ?_)
            subst q51
            refine lv_if_lt (tgt := 74) hx hb d_M_annul_54 (by decide) (fun c54 => ?_) (fun c54 => ?_)
            ·
              refine lv_iconst (v := nI 0) hx hb d_M_annul_74 (by decide) ?_
              exact W.iret (v := nI 0) hx hb hr (fun t ht hW => ⟨⟨nI 0, (), rfl, by first | rfl | trivial | omega, ⟨by rw [ht]; exact hP, va_K.moved hW.alike hK, hD⟩⟩, hS.F ht⟩) hS.2.2 d_M_annul_75
            ·
              exact absurd c54 (by decide)
        ·
          exact absurd c39 (by decide)
      ·
        exact absurd c28 (by decide)
  ·
    exact absurd c8 (by decide)
set_option maxHeartbeats 4000000 in
set_option maxRecDepth 100000 in
theorem c_M_annul_bad (l : Launch) (dC : Nat → ClassId) (dI : Nat → Nat → Nat) (am cm : Nat → Nat) (sz : Nat) (th : Int32) (mw mwr mfl mact : Nat → Int32) (on cut mrec : Int32) (mlog mlive had : Nat → Int32) (mser mcur mrd mwt worn : Int32) (pg : Nat → Int32) (pla sou fou : Int32) (tno rea : Int32) (hok : ¬ (nI 0 ≤ rea ∧ rea ≤ nI 3)) : Met l y_M_annul w_M_annul ({ frames := 1, cells := 0, slots := 0, locals := 23 }) (xP (dC, dI) vwCl (mt cm) (mw_ am cm th mw mwr mfl mact (nI 1) (-1) (nI 0) mlog mlive had (nI 0) (-1) (nI 0) (nI 0) (nI 0) pg pla sou fou) sz [.ref (am 0), .int tno, .int rea]) (va_Qi (fun r (u : Unit) => r = nI 0) (fun (u : Unit) (t : State) => xB (dC, dI) vwCl (mt cm) (xA 9 am sz) (mw_ am cm (nI 1) mw mwr mfl mact (nI 1) (-1) (nI 0) mlog mlive had (nI 0) (-1) (nI 0) (nI 0) (nI 0) pg pla sou fou) t) (xA 9 am sz)) 0 0 (xA 9 am sz) := by
  refine Met.ofW (cc := b_M_annul) (maxL := 4) (ret := (some (.int))) (by decide) rfl ?_
  intro P e s m args below meth c0 s₁ B hml hv
  obtain ⟨rfl, hsz, hP, hK, hD0⟩ := hv
  have hx := B.exec
  have hb := B.bytes
  have hr := B.returns
  have hts := atoms_spec (ws := w_M_annul) B.pre
  have hown : s.vm.findClass R_M = some m.cls := findClass_of_methodNamed B.named
  have hlocks := B.notSynchronized
  subst hsz
  have hD := mw_D (sz := s.heap.size) hD0
  have hS : va_S (xA 9 am s.heap.size) s.heap s.heap [] := va_S.rf
  have hl := lv_entry ([.ref (am 0), .int tno, .int rea]) (n := 4) (Nat.le_of_ble_eq_true rfl)
  rw [lg_entry_eq]
  generalize (lg_sl ([.ref (am 0), .int tno, .int rea]) ++ List.replicate (4 - (lg_sl ([.ref (am 0), .int tno, .int rea])).length) Slot.unset).toArray = ls at hl ⊢
  have hl : lv_has ls 4 [(0, .ref (am 0)), (1, .int tno), (2, .int rea)] := hl
  refine lv_aload_n hx hb d_M_annul_0 rfl (lv_at hl 0 rfl) ?_
  refine lv_iconst (v := nI 1) hx hb d_M_annul_1 (by decide) ?_
  refine lv_iload_n hx hb d_M_annul_2 rfl (lv_at hl 2 rfl) ?_
  refine lv_iconst (v := nI 0) hx hb d_M_annul_3 (by decide) ?_
  refine lv_iconst (v := nI 3) hx hb d_M_annul_4 (by decide) ?_
  refine vp_callSi (va_runS (As := [.int rea, .int (nI 0), .int (nI 3)]) (rest := [.int (nI 1), .ref (am 0)]) ⟨hx, hb, hml, hown, hts⟩ (c_M_isIn l dC dI rea (nI 0) (nI 3) ) (cwS 3 hts (g_S t_781 t_782 t_6 t_783) rfl rfl rfl (by decide +kernel) ⟨by decide, by decide⟩) (xR_s (va_P.sub hP [] rfl) (hK.sub [] rfl)) rfl rfl hl.1 rfl (lv_room (Nat.le_of_ble_eq_true rfl)) d_M_annul_5 ⟨Nat.le_refl _, Nat.le_refl _⟩).run (fun r5 q5 => ?_)
  obtain ⟨rfl, -⟩ := q5.resolve_left (fun z => (hok) z.2)
  refine lv_if_ne (tgt := 15) hx hb d_M_annul_8 (by decide) (fun c8 => ?_) (fun c8 => ?_)
  ·
    exact absurd c8 (by decide)
  ·
    refine lv_iconst (v := nI 1) hx hb d_M_annul_11 (by decide) ?_
    refine lv_goto (tgt := 16) hx hb d_M_annul_12 (by decide) ?_
    have hSz := hS.1
    refine va_calli (va_runV (C := R_M) (As := [.int (nI 1), .int (nI 1)]) (rest := []) ⟨hx, hb, hml, hown, hts⟩ (c_M_fails_1 l dC dI am cm s.heap.size th mw mwr mfl mact (nI 1) (-1) (nI 0) mlog mlive had (nI 0) (-1) (nI 0) (nI 0) (nI 0) pg pla sou fou (nI 1) ) (cwV 2 hts (g_V t_784 t_786 s_22 t_6 t_787) rfl rfl rfl (by decide +kernel) ⟨by decide, by decide⟩) (xP_v hP hK hD 0 rfl rfl) rfl rfl hl.1 rfl (lv_room (Nat.le_of_ble_eq_true rfl)) d_M_annul_16 ⟨Nat.le_refl _, Nat.le_refl _⟩) hS (fun q _ h => xA_up hS.1 q h) (fun q h => xA_up hS.1 q h) (fun r16 u16 t H1 locs1 ht hvm q16 hB hz1 hk1 hS => ?_)
    obtain ⟨hP1, hK1, hD1⟩ := hB
    rw [ht] at hP1
    have hD : va_D (xA 9 am s.heap.size) (mw_ am cm (nI 1) mw mwr mfl mact (nI 1) (-1) (nI 0) mlog mlive had (nI 0) (-1) (nI 0) (nI 0) (nI 0) pg pla sou fou) := hD1.weaken (fun _ q _ h => xA_up hSz _ h)
    have hP : va_P (dC, dI) vwCl (mw_ am cm (nI 1) mw mwr mfl mact (nI 1) (-1) (nI 0) mlog mlive had (nI 0) (-1) (nI 0) (nI 0) (nI 0) pg pla sou fou) H1 := hP1
    generalize H1 = H at hP hS ⊢
    generalize locs1 = locs at hS ⊢
    subst q16
    refine lv_if_ne (tgt := 42) hx hb d_M_annul_19 (by decide) (fun c19 => ?_) (fun c19 => ?_)
    ·
      have c19 := cz_ne_t (by omega) c19
      refine lv_iconst (v := nI 0) hx hb d_M_annul_42 (by decide) ?_
      exact W.iret (v := nI 0) hx hb hr (fun t ht hW => ⟨⟨nI 0, (), rfl, by first | rfl | trivial | omega, ⟨by rw [ht]; exact hP, va_K.moved hW.alike hK, hD⟩⟩, hS.F ht⟩) hS.2.2 d_M_annul_43
    ·
      exact absurd c19 (by decide)
set_option maxHeartbeats 4000000 in
set_option maxRecDepth 100000 in
theorem c_M_sync_f (l : Launch) (dC : Nat → ClassId) (dI : Nat → Nat → Nat) (am cm : Nat → Nat) (sz : Nat) (th : Int32) (mw mwr mfl mact : Nat → Int32) (on cut mrec : Int32) (mlog mlive had : Nat → Int32) (mser mcur mrd mwt worn : Int32) (pg : Nat → Int32) (pla sou fou : Int32)  (hmv : ∀ i, i < 16 → mlive i = -1) : Met l y_M_sync w_M_sync ({ frames := 1, cells := 0, slots := 0, locals := 22 }) (xP (dC, dI) vwCl (mt cm) (mw_ am cm th mw mwr mfl mact (nI 1) (-1) (nI 0) mlog mlive had (nI 0) (-1) (nI 0) (nI 0) (nI 0) pg pla sou fou) sz [.ref (am 0)]) (va_Qi (fun r (u : Unit) => r = nI 1) (fun (u : Unit) (t : State) => xB (dC, dI) vwCl (mt cm) (xA 9 am sz) (mw_ am cm (nI 0) mw mwr mfl mact (nI 1) (-1) (nI 0) mlog mlive had (nI 0) (-1) (nI 0) (nI 0) (nI 0) pg pla sou fou) t) (xA 9 am sz)) 0 0 (xA 9 am sz) := by
  refine Met.ofW (cc := b_M_sync) (maxL := 3) (ret := (some (.int))) (by decide) rfl ?_
  intro P e s m args below meth c0 s₁ B hml hv
  obtain ⟨rfl, hsz, hP, hK, hD0⟩ := hv
  have hx := B.exec
  have hb := B.bytes
  have hr := B.returns
  have hts := atoms_spec (ws := w_M_sync) B.pre
  have hown : s.vm.findClass R_M = some m.cls := findClass_of_methodNamed B.named
  have hlocks := B.notSynchronized
  subst hsz
  have hD := mw_D (sz := s.heap.size) hD0
  have hS : va_S (xA 9 am s.heap.size) s.heap s.heap [] := va_S.rf
  have hl := lv_entry ([.ref (am 0)]) (n := 3) (Nat.le_of_ble_eq_true rfl)
  rw [lg_entry_eq]
  generalize (lg_sl ([.ref (am 0)]) ++ List.replicate (3 - (lg_sl ([.ref (am 0)])).length) Slot.unset).toArray = ls at hl ⊢
  have hl : lv_has ls 3 [(0, .ref (am 0))] := hl
  refine lv_aload_n hx hb d_M_sync_0 rfl (lv_at hl 0 rfl) ?_
  refine lv_iconst (v := nI 1) hx hb d_M_sync_1 (by decide) ?_
  refine lv_aload_n hx hb d_M_sync_2 rfl (lv_at hl 0 rfl) ?_
  refine va_get (D := (dC, dI)) (ci := 5) (v := .int (nI 1)) (C := R_M) (T := F_M) (N := 20) hx hb hts (fun w h => List.mem_cons_of_mem _ (in_M w h)) hown hK hP 0 rfl rfl 5 (by decide) (hts (.fieldLink R_M 23 R_M "on" "Z") (List.mem_cons_of_mem _ t_717)) (fun _ h9 => h9) rfl d_M_sync_3 ?_
  refine lv_if_ne (tgt := 13) hx hb d_M_sync_6 (by decide) (fun c6 => ?_) (fun c6 => ?_)
  ·
    have c6 := cz_ne_t (by omega) c6
    refine lv_iconst (v := nI 0) hx hb d_M_sync_13 (by decide) ?_
    have hSz := hS.1
    refine va_calli (va_runV (C := R_M) (As := [.int (nI 1), .int (nI 0)]) (rest := []) ⟨hx, hb, hml, hown, hts⟩ (c_M_fails_0 l dC dI am cm s.heap.size th mw mwr mfl mact (nI 1) (-1) (nI 0) mlog mlive had (nI 0) (-1) (nI 0) (nI 0) (nI 0) pg pla sou fou (nI 1) ) (cwV 2 hts (g_V t_784 t_786 s_22 t_6 t_787) rfl rfl rfl (by decide +kernel) ⟨by decide, by decide⟩) (xP_v hP hK hD 0 rfl rfl) rfl rfl hl.1 rfl (lv_room (Nat.le_of_ble_eq_true rfl)) d_M_sync_14 ⟨Nat.le_refl _, Nat.le_refl _⟩) hS (fun q _ h => xA_up hS.1 q h) (fun q h => xA_up hS.1 q h) (fun r14 u14 t H1 locs1 ht hvm q14 hB hz1 hk1 hS => ?_)
    obtain ⟨hP1, hK1, hD1⟩ := hB
    rw [ht] at hP1
    have hD : va_D (xA 9 am s.heap.size) (mw_ am cm (nI 0) mw mwr mfl mact (nI 1) (-1) (nI 0) mlog mlive had (nI 0) (-1) (nI 0) (nI 0) (nI 0) pg pla sou fou) := hD1.weaken (fun _ q _ h => xA_up hSz _ h)
    have hP : va_P (dC, dI) vwCl (mw_ am cm (nI 0) mw mwr mfl mact (nI 1) (-1) (nI 0) mlog mlive had (nI 0) (-1) (nI 0) (nI 0) (nI 0) pg pla sou fou) H1 := hP1
    generalize H1 = H at hP hS ⊢
    generalize locs1 = locs at hS ⊢
    subst q14
    refine lv_if_eq (tgt := 22) hx hb d_M_sync_17 (by decide) (fun c17 => ?_) (fun c17 => ?_)
    ·
      have c17 := cz_eq_t (by omega) c17
      refine lv_aload_n hx hb d_M_sync_22 rfl (lv_at hl 0 rfl) ?_
      refine vp_callSi (va_runV (C := R_M) (As := []) (rest := []) ⟨hx, hb, hml, hown, hts⟩ (c_M_durable_f l dC dI am cm (nI 0) mw mwr mfl mact (nI 1) (-1) (nI 0) mlog mlive had (nI 0) (-1) (nI 0) (nI 0) (nI 0) pg pla sou fou  (hmv)) (cwV 0 hts (g_V t_894 t_896 s_44 t_6 t_897) rfl rfl rfl (by decide +kernel) ⟨by decide, by decide⟩) (xR_v hP hK 0 rfl rfl) rfl rfl hl.1 rfl (lv_room (Nat.le_of_ble_eq_true rfl)) d_M_sync_23 ⟨Nat.le_refl _, Nat.le_refl _⟩).run (fun r23 q23 => ?_)
      subst q23
      refine lv_aload_n hx hb d_M_sync_26 rfl (lv_at hl 0 rfl) ?_
      refine va_get (D := (dC, dI)) (ci := 5) (v := .int (nI 0)) (C := R_M) (T := F_M) (N := 20) hx hb hts (fun w h => List.mem_cons_of_mem _ (in_M w h)) hown hK hP 0 rfl rfl 7 (by decide) (hts (.fieldLink R_M 52 R_M "records" "I") (List.mem_cons_of_mem _ t_719)) (fun _ h9 => h9) rfl d_M_sync_27 ?_
      refine lv_icmp_ne (tgt := 35) hx hb d_M_sync_30 (by decide) (fun c30 => ?_) (fun c30 => ?_)
      ·
        exact absurd c30 (by decide)
      ·
        have c30 := cd_ne_f (by omega) (by omega) c30
        refine lv_iconst (v := nI 1) hx hb d_M_sync_33 (by decide) ?_
        exact W.iret (v := nI 1) hx hb hr (fun t ht hW => ⟨⟨nI 1, (), rfl, by first | rfl | trivial | omega, ⟨by rw [ht]; exact hP, va_K.moved hW.alike hK, hD⟩⟩, hS.F ht⟩) hS.2.2 d_M_sync_34
    ·
      exact absurd c17 (by decide)
  ·
    exact absurd c6 (by decide)
set_option maxHeartbeats 4000000 in
set_option maxRecDepth 100000 in
theorem c_M_ticket_f (l : Launch) (dC : Nat → ClassId) (dI : Nat → Nat → Nat) (am cm : Nat → Nat) (sz : Nat) (th : Int32) (mw mwr mfl mact : Nat → Int32) (on cut mrec : Int32) (mlog mlive had : Nat → Int32) (mser mcur mrd mwt worn : Int32) (pg : Nat → Int32) (pla sou fou : Int32) (n what : Int32) : Met l y_M_ticket w_M_ticket ({ frames := 1, cells := 0, slots := 0, locals := 23 }) (xP (dC, dI) vwCl (mt cm) (mw_ am cm th mw mwr mfl mact (nI 1) (-1) (nI 0) mlog mlive had (nI 0) (-1) (nI 0) (nI 0) (nI 0) pg pla sou fou) sz [.ref (am 0), .int n, .int what]) (va_Qi (fun r (u : Unit) => r = nI 0) (fun (u : Unit) (t : State) => xB (dC, dI) vwCl (mt cm) (xA 9 am sz) (mw_ am cm (nI 2) mw mwr mfl mact (nI 1) (-1) (nI 0) mlog mlive had (nI 0) (-1) (nI 0) (nI 0) (nI 0) pg pla sou fou) t) (xA 9 am sz)) 0 0 (xA 9 am sz) := by
  refine Met.ofW (cc := b_M_ticket) (maxL := 4) (ret := (some (.int))) (by decide) rfl ?_
  intro P e s m args below meth c0 s₁ B hml hv
  obtain ⟨rfl, hsz, hP, hK, hD0⟩ := hv
  have hx := B.exec
  have hb := B.bytes
  have hr := B.returns
  have hts := atoms_spec (ws := w_M_ticket) B.pre
  have hown : s.vm.findClass R_M = some m.cls := findClass_of_methodNamed B.named
  have hlocks := B.notSynchronized
  subst hsz
  have hD := mw_D (sz := s.heap.size) hD0
  have hS : va_S (xA 9 am s.heap.size) s.heap s.heap [] := va_S.rf
  have hl := lv_entry ([.ref (am 0), .int n, .int what]) (n := 4) (Nat.le_of_ble_eq_true rfl)
  rw [lg_entry_eq]
  generalize (lg_sl ([.ref (am 0), .int n, .int what]) ++ List.replicate (4 - (lg_sl ([.ref (am 0), .int n, .int what])).length) Slot.unset).toArray = ls at hl ⊢
  have hl : lv_has ls 4 [(0, .ref (am 0)), (1, .int n), (2, .int what)] := hl
  refine lv_aload_n hx hb d_M_ticket_0 rfl (lv_at hl 0 rfl) ?_
  refine lv_iconst (v := nI 1) hx hb d_M_ticket_1 (by decide) ?_
  refine lv_aload_n hx hb d_M_ticket_2 rfl (lv_at hl 0 rfl) ?_
  refine va_get (D := (dC, dI)) (ci := 5) (v := .int (nI 1)) (C := R_M) (T := F_M) (N := 20) hx hb hts (fun w h => List.mem_cons_of_mem _ (in_M w h)) hown hK hP 0 rfl rfl 5 (by decide) (hts (.fieldLink R_M 23 R_M "on" "Z") (List.mem_cons_of_mem _ t_717)) (fun _ h9 => h9) rfl d_M_ticket_3 ?_
  refine lv_if_ne (tgt := 13) hx hb d_M_ticket_6 (by decide) (fun c6 => ?_) (fun c6 => ?_)
  ·
    have c6 := cz_ne_t (by omega) c6
    refine lv_iconst (v := nI 0) hx hb d_M_ticket_13 (by decide) ?_
    have hSz := hS.1
    refine va_calli (va_runV (C := R_M) (As := [.int (nI 1), .int (nI 0)]) (rest := []) ⟨hx, hb, hml, hown, hts⟩ (c_M_fails_0 l dC dI am cm s.heap.size th mw mwr mfl mact (nI 1) (-1) (nI 0) mlog mlive had (nI 0) (-1) (nI 0) (nI 0) (nI 0) pg pla sou fou (nI 1) ) (cwV 2 hts (g_V t_784 t_786 s_22 t_6 t_787) rfl rfl rfl (by decide +kernel) ⟨by decide, by decide⟩) (xP_v hP hK hD 0 rfl rfl) rfl rfl hl.1 rfl (lv_room (Nat.le_of_ble_eq_true rfl)) d_M_ticket_14 ⟨Nat.le_refl _, Nat.le_refl _⟩) hS (fun q _ h => xA_up hS.1 q h) (fun q h => xA_up hS.1 q h) (fun r14 u14 t H1 locs1 ht hvm q14 hB hz1 hk1 hS => ?_)
    obtain ⟨hP1, hK1, hD1⟩ := hB
    rw [ht] at hP1
    have hD : va_D (xA 9 am s.heap.size) (mw_ am cm (nI 0) mw mwr mfl mact (nI 1) (-1) (nI 0) mlog mlive had (nI 0) (-1) (nI 0) (nI 0) (nI 0) pg pla sou fou) := hD1.weaken (fun _ q _ h => xA_up hSz _ h)
    have hP : va_P (dC, dI) vwCl (mw_ am cm (nI 0) mw mwr mfl mact (nI 1) (-1) (nI 0) mlog mlive had (nI 0) (-1) (nI 0) (nI 0) (nI 0) pg pla sou fou) H1 := hP1
    generalize H1 = H at hP hS ⊢
    generalize locs1 = locs at hS ⊢
    subst q14
    refine lv_if_eq (tgt := 22) hx hb d_M_ticket_17 (by decide) (fun c17 => ?_) (fun c17 => ?_)
    ·
      have c17 := cz_eq_t (by omega) c17
      refine lv_iload_n hx hb d_M_ticket_22 rfl (lv_at hl 1 rfl) ?_
      refine lv_iconst (v := nI 1) hx hb d_M_ticket_23 (by decide) ?_
      refine lv_icmp_ge (tgt := 31) hx hb d_M_ticket_24 (by decide) (fun c24 => ?_) (fun c24 => ?_)
      ·
        refine lv_aload_n hx hb d_M_ticket_31 rfl (lv_at hl 0 rfl) ?_
        refine lv_iload_n hx hb d_M_ticket_32 rfl (lv_at hl 1 rfl) ?_
        refine vp_callSi (va_runV (C := R_M) (As := [.int n]) (rest := []) ⟨hx, hb, hml, hown, hts⟩ (c_M_placeOf_f l dC dI am cm (nI 0) mw mwr mfl mact (nI 1) (-1) (nI 0) mlog mlive had (nI 0) (-1) (nI 0) (nI 0) (nI 0) pg pla sou fou n ) (cwV 1 hts (g_V t_881 t_883 s_42 t_6 t_884) rfl rfl rfl (by decide +kernel) ⟨by decide, by decide⟩) (xR_v hP hK 0 rfl rfl) rfl rfl hl.1 rfl (lv_room (Nat.le_of_ble_eq_true rfl)) d_M_ticket_33 ⟨Nat.le_refl _, Nat.le_refl _⟩).run (fun r33 q33 => ?_)
        subst q33
        refine lv_istore_n hx hb d_M_ticket_36 rfl hl (by decide) rfl (fun ls hl => ?_)
        have hl : lv_has ls 4 [(3, .int (-1)), (0, .ref (am 0)), (1, .int n), (2, .int what)] := hl
        refine lv_aload_n hx hb d_M_ticket_37 rfl (lv_at hl 1 rfl) ?_
        refine lv_iconst (v := nI 2) hx hb d_M_ticket_38 (by decide) ?_
        refine lv_iload_n hx hb d_M_ticket_39 rfl (lv_at hl 0 rfl) ?_
        refine lv_if_lt (tgt := 53) hx hb d_M_ticket_40 (by decide) (fun c40 => ?_) (fun c40 => ?_)
        ·
          refine lv_iconst (v := nI 1) hx hb d_M_ticket_53 (by decide) ?_
          refine lv_goto (tgt := 58) hx hb d_M_ticket_54 (by decide) ?_
          have hSz := hS.1
          refine va_calli (va_runV (C := R_M) (As := [.int (nI 2), .int (nI 1)]) (rest := []) ⟨hx, hb, hml, hown, hts⟩ (c_M_fails_1 l dC dI am cm H.size (nI 0) mw mwr mfl mact (nI 1) (-1) (nI 0) mlog mlive had (nI 0) (-1) (nI 0) (nI 0) (nI 0) pg pla sou fou (nI 2) ) (cwV 2 hts (g_V t_784 t_786 s_22 t_6 t_787) rfl rfl rfl (by decide +kernel) ⟨by decide, by decide⟩) (xP_v hP hK hD 0 rfl rfl) rfl rfl hl.1 rfl (lv_room (Nat.le_of_ble_eq_true rfl)) d_M_ticket_58 ⟨Nat.le_refl _, Nat.le_refl _⟩) hS (fun q _ h => xA_up hS.1 q h) (fun q h => xA_up hS.1 q h) (fun r58 u58 t H1 locs1 ht hvm q58 hB hz1 hk1 hS => ?_)
          obtain ⟨hP1, hK1, hD1⟩ := hB
          rw [ht] at hP1
          have hD : va_D (xA 9 am s.heap.size) (mw_ am cm (nI 2) mw mwr mfl mact (nI 1) (-1) (nI 0) mlog mlive had (nI 0) (-1) (nI 0) (nI 0) (nI 0) pg pla sou fou) := hD1.weaken (fun _ q _ h => xA_up hSz _ h)
          have hP : va_P (dC, dI) vwCl (mw_ am cm (nI 2) mw mwr mfl mact (nI 1) (-1) (nI 0) mlog mlive had (nI 0) (-1) (nI 0) (nI 0) (nI 0) pg pla sou fou) H1 := hP1
          generalize H1 = H at hP hS ⊢
          generalize locs1 = locs at hS ⊢
          subst q58
          refine lv_if_eq (tgt := 66) hx hb d_M_ticket_61 (by decide) (fun c61 => ?_) (fun c61 => ?_)
          ·
            exact absurd c61 (by decide)
          ·
            have c61 := cz_eq_f (by omega) c61
            refine lv_iconst (v := nI 0) hx hb d_M_ticket_64 (by decide) ?_
            exact W.iret (v := nI 0) hx hb hr (fun t ht hW => ⟨⟨nI 0, (), rfl, by first | rfl | trivial | omega, ⟨by rw [ht]; exact hP, va_K.moved hW.alike hK, hD⟩⟩, hS.F ht⟩) hS.2.2 d_M_ticket_65
        ·
          exact absurd c40 (by decide)
      ·
        refine lv_iconst (v := (-1)) hx hb d_M_ticket_27 (by decide) ?_
        refine lv_goto (tgt := 36) hx hb d_M_ticket_28 (by decide) ?_
        refine lv_istore_n hx hb d_M_ticket_36 rfl hl (by decide) rfl (fun ls hl => ?_)
        have hl : lv_has ls 4 [(3, .int (-1)), (0, .ref (am 0)), (1, .int n), (2, .int what)] := hl
        refine lv_aload_n hx hb d_M_ticket_37 rfl (lv_at hl 1 rfl) ?_
        refine lv_iconst (v := nI 2) hx hb d_M_ticket_38 (by decide) ?_
        refine lv_iload_n hx hb d_M_ticket_39 rfl (lv_at hl 0 rfl) ?_
        refine lv_if_lt (tgt := 53) hx hb d_M_ticket_40 (by decide) (fun c40 => ?_) (fun c40 => ?_)
        ·
          refine lv_iconst (v := nI 1) hx hb d_M_ticket_53 (by decide) ?_
          refine lv_goto (tgt := 58) hx hb d_M_ticket_54 (by decide) ?_
          have hSz := hS.1
          refine va_calli (va_runV (C := R_M) (As := [.int (nI 2), .int (nI 1)]) (rest := []) ⟨hx, hb, hml, hown, hts⟩ (c_M_fails_1 l dC dI am cm H.size (nI 0) mw mwr mfl mact (nI 1) (-1) (nI 0) mlog mlive had (nI 0) (-1) (nI 0) (nI 0) (nI 0) pg pla sou fou (nI 2) ) (cwV 2 hts (g_V t_784 t_786 s_22 t_6 t_787) rfl rfl rfl (by decide +kernel) ⟨by decide, by decide⟩) (xP_v hP hK hD 0 rfl rfl) rfl rfl hl.1 rfl (lv_room (Nat.le_of_ble_eq_true rfl)) d_M_ticket_58 ⟨Nat.le_refl _, Nat.le_refl _⟩) hS (fun q _ h => xA_up hS.1 q h) (fun q h => xA_up hS.1 q h) (fun r58 u58 t H1 locs1 ht hvm q58 hB hz1 hk1 hS => ?_)
          obtain ⟨hP1, hK1, hD1⟩ := hB
          rw [ht] at hP1
          have hD : va_D (xA 9 am s.heap.size) (mw_ am cm (nI 2) mw mwr mfl mact (nI 1) (-1) (nI 0) mlog mlive had (nI 0) (-1) (nI 0) (nI 0) (nI 0) pg pla sou fou) := hD1.weaken (fun _ q _ h => xA_up hSz _ h)
          have hP : va_P (dC, dI) vwCl (mw_ am cm (nI 2) mw mwr mfl mact (nI 1) (-1) (nI 0) mlog mlive had (nI 0) (-1) (nI 0) (nI 0) (nI 0) pg pla sou fou) H1 := hP1
          generalize H1 = H at hP hS ⊢
          generalize locs1 = locs at hS ⊢
          subst q58
          refine lv_if_eq (tgt := 66) hx hb d_M_ticket_61 (by decide) (fun c61 => ?_) (fun c61 => ?_)
          ·
            exact absurd c61 (by decide)
          ·
            have c61 := cz_eq_f (by omega) c61
            refine lv_iconst (v := nI 0) hx hb d_M_ticket_64 (by decide) ?_
            exact W.iret (v := nI 0) hx hb hr (fun t ht hW => ⟨⟨nI 0, (), rfl, by first | rfl | trivial | omega, ⟨by rw [ht]; exact hP, va_K.moved hW.alike hK, hD⟩⟩, hS.F ht⟩) hS.2.2 d_M_ticket_65
        ·
          exact absurd c40 (by decide)
    ·
      exact absurd c17 (by decide)
  ·
    exact absurd c6 (by decide)
set_option maxHeartbeats 4000000 in
set_option maxRecDepth 100000 in
theorem c_M_dayTotal_f (l : Launch) (dC : Nat → ClassId) (dI : Nat → Nat → Nat) (am cm : Nat → Nat) (sz : Nat) (th : Int32) (mw mwr mfl mact : Nat → Int32) (on cut mrec : Int32) (mlog mlive had : Nat → Int32) (mser mcur mrd mwt worn : Int32) (pg : Nat → Int32) (pla sou fou : Int32) (da pr : Int32) : Met l y_M_dayTotal w_M_dayTotal ({ frames := 1, cells := 0, slots := 0, locals := 22 }) (xP (dC, dI) vwCl (mt cm) (mw_ am cm th mw mwr mfl mact (nI 1) (-1) (nI 0) mlog mlive had (nI 0) (-1) (nI 0) (nI 0) (nI 0) pg pla sou fou) sz [.ref (am 0), .int da, .int pr]) (va_Ql (fun r (u : Unit) => r = 0) (fun (u : Unit) (t : State) => xB (dC, dI) vwCl (mt cm) (xA 9 am sz) (mw_ am cm (nI 0) mw mwr mfl mact (nI 1) (-1) (nI 0) mlog mlive had (nI 0) (-1) (nI 0) (nI 0) (nI 0) pg pla sou fou) t) (xA 9 am sz)) 0 0 (xA 9 am sz) := by
  refine Met.ofW (cc := b_M_dayTotal) (maxL := 7) (ret := (some (.long))) (by decide) rfl ?_
  intro P e s m args below meth c0 s₁ B hml hv
  obtain ⟨rfl, hsz, hP, hK, hD0⟩ := hv
  have hx := B.exec
  have hb := B.bytes
  have hr := B.returns
  have hts := atoms_spec (ws := w_M_dayTotal) B.pre
  have hown : s.vm.findClass R_M = some m.cls := findClass_of_methodNamed B.named
  have hlocks := B.notSynchronized
  subst hsz
  have hD := mw_D (sz := s.heap.size) hD0
  have hS : va_S (xA 9 am s.heap.size) s.heap s.heap [] := va_S.rf
  have hl := lv_entry ([.ref (am 0), .int da, .int pr]) (n := 7) (Nat.le_of_ble_eq_true rfl)
  rw [lg_entry_eq]
  generalize (lg_sl ([.ref (am 0), .int da, .int pr]) ++ List.replicate (7 - (lg_sl ([.ref (am 0), .int da, .int pr])).length) Slot.unset).toArray = ls at hl ⊢
  have hl : lv_has ls 7 [(0, .ref (am 0)), (1, .int da), (2, .int pr)] := hl
  refine lv_aload_n hx hb d_M_dayTotal_0 rfl (lv_at hl 0 rfl) ?_
  refine lv_iconst (v := nI 1) hx hb d_M_dayTotal_1 (by decide) ?_
  refine lv_aload_n hx hb d_M_dayTotal_2 rfl (lv_at hl 0 rfl) ?_
  refine va_get (D := (dC, dI)) (ci := 5) (v := .int (nI 1)) (C := R_M) (T := F_M) (N := 20) hx hb hts (fun w h => List.mem_cons_of_mem _ (in_M w h)) hown hK hP 0 rfl rfl 5 (by decide) (hts (.fieldLink R_M 23 R_M "on" "Z") (List.mem_cons_of_mem _ t_717)) (fun _ h9 => h9) rfl d_M_dayTotal_3 ?_
  refine lv_if_ne (tgt := 13) hx hb d_M_dayTotal_6 (by decide) (fun c6 => ?_) (fun c6 => ?_)
  ·
    have c6 := cz_ne_t (by omega) c6
    refine lv_iconst (v := nI 0) hx hb d_M_dayTotal_13 (by decide) ?_
    have hSz := hS.1
    refine va_calli (va_runV (C := R_M) (As := [.int (nI 1), .int (nI 0)]) (rest := []) ⟨hx, hb, hml, hown, hts⟩ (c_M_fails_0 l dC dI am cm s.heap.size th mw mwr mfl mact (nI 1) (-1) (nI 0) mlog mlive had (nI 0) (-1) (nI 0) (nI 0) (nI 0) pg pla sou fou (nI 1) ) (cwV 2 hts (g_V t_784 t_786 s_22 t_6 t_787) rfl rfl rfl (by decide +kernel) ⟨by decide, by decide⟩) (xP_v hP hK hD 0 rfl rfl) rfl rfl hl.1 rfl (lv_room (Nat.le_of_ble_eq_true rfl)) d_M_dayTotal_14 ⟨Nat.le_refl _, Nat.le_refl _⟩) hS (fun q _ h => xA_up hS.1 q h) (fun q h => xA_up hS.1 q h) (fun r14 u14 t H1 locs1 ht hvm q14 hB hz1 hk1 hS => ?_)
    obtain ⟨hP1, hK1, hD1⟩ := hB
    rw [ht] at hP1
    have hD : va_D (xA 9 am s.heap.size) (mw_ am cm (nI 0) mw mwr mfl mact (nI 1) (-1) (nI 0) mlog mlive had (nI 0) (-1) (nI 0) (nI 0) (nI 0) pg pla sou fou) := hD1.weaken (fun _ q _ h => xA_up hSz _ h)
    have hP : va_P (dC, dI) vwCl (mw_ am cm (nI 0) mw mwr mfl mact (nI 1) (-1) (nI 0) mlog mlive had (nI 0) (-1) (nI 0) (nI 0) (nI 0) pg pla sou fou) H1 := hP1
    generalize H1 = H at hP hS ⊢
    generalize locs1 = locs at hS ⊢
    subst q14
    refine lv_if_eq (tgt := 22) hx hb d_M_dayTotal_17 (by decide) (fun c17 => ?_) (fun c17 => ?_)
    ·
      have c17 := cz_eq_t (by omega) c17
      refine lv_lconst (v := 0) hx hb d_M_dayTotal_22 (by decide) ?_
      refine lv_lstore_n hx hb d_M_dayTotal_23 rfl hl (by decide) rfl (fun ls hl => ?_)
      have hl : lv_has ls 7 [(3, .long 0), (0, .ref (am 0)), (1, .int da), (2, .int pr)] := hl
      refine lv_iconst (v := nI 1) hx hb d_M_dayTotal_24 (by decide) ?_
      refine lv_istore hx hb d_M_dayTotal_25 hl (by decide) rfl (fun ls hl => ?_)
      have hl : lv_has ls 7 [(5, .int (nI 1)), (3, .long 0), (0, .ref (am 0)), (1, .int da), (2, .int pr)] := hl
      refine lv_iload hx hb d_M_dayTotal_27 (lv_at hl 0 rfl) ?_
      refine lv_aload_n hx hb d_M_dayTotal_29 rfl (lv_at hl 2 rfl) ?_
      refine vp_callSi (va_runV (C := R_M) (As := []) (rest := [.int (nI 1)]) ⟨hx, hb, hml, hown, hts⟩ (c_M_tickets_f l dC dI am cm (nI 0) mw mwr mfl mact (nI 1) (-1) (nI 0) mlog mlive had (nI 0) (-1) (nI 0) (nI 0) (nI 0) pg pla sou fou  ) (cwV 0 hts (g_V t_865 t_867 s_39 t_6 t_868) rfl rfl rfl (by decide +kernel) ⟨by decide, by decide⟩) (xR_v hP hK 0 rfl rfl) rfl rfl hl.1 rfl (lv_room (Nat.le_of_ble_eq_true rfl)) d_M_dayTotal_30 ⟨Nat.le_refl _, Nat.le_refl _⟩).run (fun r30 q30 => ?_)
      subst q30
      refine lv_icmp_gt (tgt := 101) hx hb d_M_dayTotal_33 (by decide) (fun c33 => ?_) (fun c33 => ?_)
      ·
        have c33 := cd_gt_t (by omega) (by omega) c33
        refine lv_lload_n hx hb d_M_dayTotal_101 rfl (lv_at hl 1 rfl) ?_
        exact W.lret (v := 0) hx hb hr (fun t ht hW => ⟨⟨0, (), rfl, by first | rfl | trivial | omega, ⟨by rw [ht]; exact hP, va_K.moved hW.alike hK, hD⟩⟩, hS.F ht⟩) hS.2.2 d_M_dayTotal_102
      ·
        exact absurd c33 (by decide)
    ·
      exact absurd c17 (by decide)
  ·
    exact absurd c6 (by decide)
set_option maxHeartbeats 4000000 in
set_option maxRecDepth 100000 in
theorem c_M_rangeTotal_f (l : Launch) (dC : Nat → ClassId) (dI : Nat → Nat → Nat) (am cm : Nat → Nat) (sz : Nat) (th : Int32) (mw mwr mfl mact : Nat → Int32) (on cut mrec : Int32) (mlog mlive had : Nat → Int32) (mser mcur mrd mwt worn : Int32) (pg : Nat → Int32) (pla sou fou : Int32) (fr to : Int32) : Met l y_M_rangeTotal w_M_rangeTotal ({ frames := 1, cells := 0, slots := 0, locals := 22 }) (xP (dC, dI) vwCl (mt cm) (mw_ am cm th mw mwr mfl mact (nI 1) (-1) (nI 0) mlog mlive had (nI 0) (-1) (nI 0) (nI 0) (nI 0) pg pla sou fou) sz [.ref (am 0), .int fr, .int to]) (va_Ql (fun r (u : Unit) => r = 0) (fun (u : Unit) (t : State) => xB (dC, dI) vwCl (mt cm) (xA 9 am sz) (mw_ am cm (nI 0) mw mwr mfl mact (nI 1) (-1) (nI 0) mlog mlive had (nI 0) (-1) (nI 0) (nI 0) (nI 0) pg pla sou fou) t) (xA 9 am sz)) 0 0 (xA 9 am sz) := by
  refine Met.ofW (cc := b_M_rangeTotal) (maxL := 6) (ret := (some (.long))) (by decide) rfl ?_
  intro P e s m args below meth c0 s₁ B hml hv
  obtain ⟨rfl, hsz, hP, hK, hD0⟩ := hv
  have hx := B.exec
  have hb := B.bytes
  have hr := B.returns
  have hts := atoms_spec (ws := w_M_rangeTotal) B.pre
  have hown : s.vm.findClass R_M = some m.cls := findClass_of_methodNamed B.named
  have hlocks := B.notSynchronized
  subst hsz
  have hD := mw_D (sz := s.heap.size) hD0
  have hS : va_S (xA 9 am s.heap.size) s.heap s.heap [] := va_S.rf
  have hl := lv_entry ([.ref (am 0), .int fr, .int to]) (n := 6) (Nat.le_of_ble_eq_true rfl)
  rw [lg_entry_eq]
  generalize (lg_sl ([.ref (am 0), .int fr, .int to]) ++ List.replicate (6 - (lg_sl ([.ref (am 0), .int fr, .int to])).length) Slot.unset).toArray = ls at hl ⊢
  have hl : lv_has ls 6 [(0, .ref (am 0)), (1, .int fr), (2, .int to)] := hl
  refine lv_aload_n hx hb d_M_rangeTotal_0 rfl (lv_at hl 0 rfl) ?_
  refine lv_iconst (v := nI 1) hx hb d_M_rangeTotal_1 (by decide) ?_
  refine lv_aload_n hx hb d_M_rangeTotal_2 rfl (lv_at hl 0 rfl) ?_
  refine va_get (D := (dC, dI)) (ci := 5) (v := .int (nI 1)) (C := R_M) (T := F_M) (N := 20) hx hb hts (fun w h => List.mem_cons_of_mem _ (in_M w h)) hown hK hP 0 rfl rfl 5 (by decide) (hts (.fieldLink R_M 23 R_M "on" "Z") (List.mem_cons_of_mem _ t_717)) (fun _ h9 => h9) rfl d_M_rangeTotal_3 ?_
  refine lv_if_ne (tgt := 13) hx hb d_M_rangeTotal_6 (by decide) (fun c6 => ?_) (fun c6 => ?_)
  ·
    have c6 := cz_ne_t (by omega) c6
    refine lv_iconst (v := nI 0) hx hb d_M_rangeTotal_13 (by decide) ?_
    have hSz := hS.1
    refine va_calli (va_runV (C := R_M) (As := [.int (nI 1), .int (nI 0)]) (rest := []) ⟨hx, hb, hml, hown, hts⟩ (c_M_fails_0 l dC dI am cm s.heap.size th mw mwr mfl mact (nI 1) (-1) (nI 0) mlog mlive had (nI 0) (-1) (nI 0) (nI 0) (nI 0) pg pla sou fou (nI 1) ) (cwV 2 hts (g_V t_784 t_786 s_22 t_6 t_787) rfl rfl rfl (by decide +kernel) ⟨by decide, by decide⟩) (xP_v hP hK hD 0 rfl rfl) rfl rfl hl.1 rfl (lv_room (Nat.le_of_ble_eq_true rfl)) d_M_rangeTotal_14 ⟨Nat.le_refl _, Nat.le_refl _⟩) hS (fun q _ h => xA_up hS.1 q h) (fun q h => xA_up hS.1 q h) (fun r14 u14 t H1 locs1 ht hvm q14 hB hz1 hk1 hS => ?_)
    obtain ⟨hP1, hK1, hD1⟩ := hB
    rw [ht] at hP1
    have hD : va_D (xA 9 am s.heap.size) (mw_ am cm (nI 0) mw mwr mfl mact (nI 1) (-1) (nI 0) mlog mlive had (nI 0) (-1) (nI 0) (nI 0) (nI 0) pg pla sou fou) := hD1.weaken (fun _ q _ h => xA_up hSz _ h)
    have hP : va_P (dC, dI) vwCl (mw_ am cm (nI 0) mw mwr mfl mact (nI 1) (-1) (nI 0) mlog mlive had (nI 0) (-1) (nI 0) (nI 0) (nI 0) pg pla sou fou) H1 := hP1
    generalize H1 = H at hP hS ⊢
    generalize locs1 = locs at hS ⊢
    subst q14
    refine lv_if_eq (tgt := 22) hx hb d_M_rangeTotal_17 (by decide) (fun c17 => ?_) (fun c17 => ?_)
    ·
      have c17 := cz_eq_t (by omega) c17
      refine lv_lconst (v := 0) hx hb d_M_rangeTotal_22 (by decide) ?_
      refine lv_lstore_n hx hb d_M_rangeTotal_23 rfl hl (by decide) rfl (fun ls hl => ?_)
      have hl : lv_has ls 6 [(3, .long 0), (0, .ref (am 0)), (1, .int fr), (2, .int to)] := hl
      refine lv_iconst (v := nI 1) hx hb d_M_rangeTotal_24 (by decide) ?_
      refine lv_istore hx hb d_M_rangeTotal_25 hl (by decide) rfl (fun ls hl => ?_)
      have hl : lv_has ls 6 [(5, .int (nI 1)), (3, .long 0), (0, .ref (am 0)), (1, .int fr), (2, .int to)] := hl
      refine lv_iload hx hb d_M_rangeTotal_27 (lv_at hl 0 rfl) ?_
      refine lv_aload_n hx hb d_M_rangeTotal_29 rfl (lv_at hl 2 rfl) ?_
      refine vp_callSi (va_runV (C := R_M) (As := []) (rest := [.int (nI 1)]) ⟨hx, hb, hml, hown, hts⟩ (c_M_tickets_f l dC dI am cm (nI 0) mw mwr mfl mact (nI 1) (-1) (nI 0) mlog mlive had (nI 0) (-1) (nI 0) (nI 0) (nI 0) pg pla sou fou  ) (cwV 0 hts (g_V t_865 t_867 s_39 t_6 t_868) rfl rfl rfl (by decide +kernel) ⟨by decide, by decide⟩) (xR_v hP hK 0 rfl rfl) rfl rfl hl.1 rfl (lv_room (Nat.le_of_ble_eq_true rfl)) d_M_rangeTotal_30 ⟨Nat.le_refl _, Nat.le_refl _⟩).run (fun r30 q30 => ?_)
      subst q30
      refine lv_icmp_gt (tgt := 77) hx hb d_M_rangeTotal_33 (by decide) (fun c33 => ?_) (fun c33 => ?_)
      ·
        have c33 := cd_gt_t (by omega) (by omega) c33
        refine lv_lload_n hx hb d_M_rangeTotal_77 rfl (lv_at hl 1 rfl) ?_
        exact W.lret (v := 0) hx hb hr (fun t ht hW => ⟨⟨0, (), rfl, by first | rfl | trivial | omega, ⟨by rw [ht]; exact hP, va_K.moved hW.alike hK, hD⟩⟩, hS.F ht⟩) hS.2.2 d_M_rangeTotal_78
      ·
        exact absurd c33 (by decide)
    ·
      exact absurd c17 (by decide)
  ·
    exact absurd c6 (by decide)
set_option maxHeartbeats 4000000 in
set_option maxRecDepth 100000 in
theorem c_M_find_f (l : Launch) (dC : Nat → ClassId) (dI : Nat → Nat → Nat) (am cm : Nat → Nat) (sz : Nat) (th : Int32) (mw mwr mfl mact : Nat → Int32) (on cut mrec : Int32) (mlog mlive had : Nat → Int32) (mser mcur mrd mwt worn : Int32) (pg : Nat → Int32) (pla sou fou : Int32) (pl fr : Int32) : Met l y_M_find w_M_find ({ frames := 1, cells := 0, slots := 0, locals := 22 }) (xP (dC, dI) vwCl (mt cm) (mw_ am cm th mw mwr mfl mact (nI 1) (-1) (nI 0) mlog mlive had (nI 0) (-1) (nI 0) (nI 0) (nI 0) pg pla sou fou) sz [.ref (am 0), .int pl, .int fr]) (va_Qi (fun r (u : Unit) => r = nI 0) (fun (u : Unit) (t : State) => xB (dC, dI) vwCl (mt cm) (xA 9 am sz) (mw_ am cm (nI 0) mw mwr mfl mact (nI 1) (-1) (nI 0) mlog mlive had (nI 0) (-1) (nI 0) (nI 0) (nI 0) pg pla sou fou) t) (xA 9 am sz)) 0 0 (xA 9 am sz) := by
  refine Met.ofW (cc := b_M_find) (maxL := 4) (ret := (some (.int))) (by decide) rfl ?_
  intro P e s m args below meth c0 s₁ B hml hv
  obtain ⟨rfl, hsz, hP, hK, hD0⟩ := hv
  have hx := B.exec
  have hb := B.bytes
  have hr := B.returns
  have hts := atoms_spec (ws := w_M_find) B.pre
  have hown : s.vm.findClass R_M = some m.cls := findClass_of_methodNamed B.named
  have hlocks := B.notSynchronized
  subst hsz
  have hD := mw_D (sz := s.heap.size) hD0
  have hS : va_S (xA 9 am s.heap.size) s.heap s.heap [] := va_S.rf
  have hl := lv_entry ([.ref (am 0), .int pl, .int fr]) (n := 4) (Nat.le_of_ble_eq_true rfl)
  rw [lg_entry_eq]
  generalize (lg_sl ([.ref (am 0), .int pl, .int fr]) ++ List.replicate (4 - (lg_sl ([.ref (am 0), .int pl, .int fr])).length) Slot.unset).toArray = ls at hl ⊢
  have hl : lv_has ls 4 [(0, .ref (am 0)), (1, .int pl), (2, .int fr)] := hl
  refine lv_aload_n hx hb d_M_find_0 rfl (lv_at hl 0 rfl) ?_
  refine lv_iconst (v := nI 1) hx hb d_M_find_1 (by decide) ?_
  refine lv_aload_n hx hb d_M_find_2 rfl (lv_at hl 0 rfl) ?_
  refine va_get (D := (dC, dI)) (ci := 5) (v := .int (nI 1)) (C := R_M) (T := F_M) (N := 20) hx hb hts (fun w h => List.mem_cons_of_mem _ (in_M w h)) hown hK hP 0 rfl rfl 5 (by decide) (hts (.fieldLink R_M 23 R_M "on" "Z") (List.mem_cons_of_mem _ t_717)) (fun _ h9 => h9) rfl d_M_find_3 ?_
  refine lv_if_ne (tgt := 13) hx hb d_M_find_6 (by decide) (fun c6 => ?_) (fun c6 => ?_)
  ·
    have c6 := cz_ne_t (by omega) c6
    refine lv_iconst (v := nI 0) hx hb d_M_find_13 (by decide) ?_
    have hSz := hS.1
    refine va_calli (va_runV (C := R_M) (As := [.int (nI 1), .int (nI 0)]) (rest := []) ⟨hx, hb, hml, hown, hts⟩ (c_M_fails_0 l dC dI am cm s.heap.size th mw mwr mfl mact (nI 1) (-1) (nI 0) mlog mlive had (nI 0) (-1) (nI 0) (nI 0) (nI 0) pg pla sou fou (nI 1) ) (cwV 2 hts (g_V t_784 t_786 s_22 t_6 t_787) rfl rfl rfl (by decide +kernel) ⟨by decide, by decide⟩) (xP_v hP hK hD 0 rfl rfl) rfl rfl hl.1 rfl (lv_room (Nat.le_of_ble_eq_true rfl)) d_M_find_14 ⟨Nat.le_refl _, Nat.le_refl _⟩) hS (fun q _ h => xA_up hS.1 q h) (fun q h => xA_up hS.1 q h) (fun r14 u14 t H1 locs1 ht hvm q14 hB hz1 hk1 hS => ?_)
    obtain ⟨hP1, hK1, hD1⟩ := hB
    rw [ht] at hP1
    have hD : va_D (xA 9 am s.heap.size) (mw_ am cm (nI 0) mw mwr mfl mact (nI 1) (-1) (nI 0) mlog mlive had (nI 0) (-1) (nI 0) (nI 0) (nI 0) pg pla sou fou) := hD1.weaken (fun _ q _ h => xA_up hSz _ h)
    have hP : va_P (dC, dI) vwCl (mw_ am cm (nI 0) mw mwr mfl mact (nI 1) (-1) (nI 0) mlog mlive had (nI 0) (-1) (nI 0) (nI 0) (nI 0) pg pla sou fou) H1 := hP1
    generalize H1 = H at hP hS ⊢
    generalize locs1 = locs at hS ⊢
    subst q14
    refine lv_if_eq (tgt := 22) hx hb d_M_find_17 (by decide) (fun c17 => ?_) (fun c17 => ?_)
    ·
      have c17 := cz_eq_t (by omega) c17
      refine lv_iconst (v := nI 1) hx hb d_M_find_22 (by decide) ?_
      refine lv_istore_n hx hb d_M_find_23 rfl hl (by decide) rfl (fun ls hl => ?_)
      have hl : lv_has ls 4 [(3, .int (nI 1)), (0, .ref (am 0)), (1, .int pl), (2, .int fr)] := hl
      refine lv_iload_n hx hb d_M_find_24 rfl (lv_at hl 0 rfl) ?_
      refine lv_aload_n hx hb d_M_find_25 rfl (lv_at hl 1 rfl) ?_
      refine vp_callSi (va_runV (C := R_M) (As := []) (rest := [.int (nI 1)]) ⟨hx, hb, hml, hown, hts⟩ (c_M_tickets_f l dC dI am cm (nI 0) mw mwr mfl mact (nI 1) (-1) (nI 0) mlog mlive had (nI 0) (-1) (nI 0) (nI 0) (nI 0) pg pla sou fou  ) (cwV 0 hts (g_V t_865 t_867 s_39 t_6 t_868) rfl rfl rfl (by decide +kernel) ⟨by decide, by decide⟩) (xR_v hP hK 0 rfl rfl) rfl rfl hl.1 rfl (lv_room (Nat.le_of_ble_eq_true rfl)) d_M_find_26 ⟨Nat.le_refl _, Nat.le_refl _⟩).run (fun r26 q26 => ?_)
      subst q26
      refine lv_icmp_gt (tgt := 59) hx hb d_M_find_29 (by decide) (fun c29 => ?_) (fun c29 => ?_)
      ·
        have c29 := cd_gt_t (by omega) (by omega) c29
        refine lv_iconst (v := nI 0) hx hb d_M_find_59 (by decide) ?_
        exact W.iret (v := nI 0) hx hb hr (fun t ht hW => ⟨⟨nI 0, (), rfl, by first | rfl | trivial | omega, ⟨by rw [ht]; exact hP, va_K.moved hW.alike hK, hD⟩⟩, hS.F ht⟩) hS.2.2 d_M_find_60
      ·
        exact absurd c29 (by decide)
    ·
      exact absurd c17 (by decide)
  ·
    exact absurd c6 (by decide)
set_option maxHeartbeats 4000000 in
set_option maxRecDepth 100000 in
theorem c_M_audit_f (l : Launch) (dC : Nat → ClassId) (dI : Nat → Nat → Nat) (am cm : Nat → Nat) (sz : Nat) (th : Int32) (mw mwr mfl mact : Nat → Int32) (on cut mrec : Int32) (mlog mlive had : Nat → Int32) (mser mcur mrd mwt worn : Int32) (pg : Nat → Int32) (pla sou fou : Int32) (fr to : Int32) : Met l y_M_audit w_M_audit ({ frames := 1, cells := 0, slots := 0, locals := 22 }) (xP (dC, dI) vwCl (mt cm) (mw_ am cm th mw mwr mfl mact (nI 1) (-1) (nI 0) mlog mlive had (nI 0) (-1) (nI 0) (nI 0) (nI 0) pg pla sou fou) sz [.ref (am 0), .int fr, .int to]) (va_Qi (fun r (u : Unit) => r = nI 0) (fun (u : Unit) (t : State) => xB (dC, dI) vwCl (mt cm) (xA 9 am sz) (mw_ am cm (nI 0) mw mwr mfl mact (nI 1) (-1) (nI 0) mlog mlive had (nI 0) (-1) (nI 0) (nI 0) (nI 0) pg pla sou fou) t) (xA 9 am sz)) 0 0 (xA 9 am sz) := by
  refine Met.ofW (cc := b_M_audit) (maxL := 4) (ret := (some (.int))) (by decide) rfl ?_
  intro P e s m args below meth c0 s₁ B hml hv
  obtain ⟨rfl, hsz, hP, hK, hD0⟩ := hv
  have hx := B.exec
  have hb := B.bytes
  have hr := B.returns
  have hts := atoms_spec (ws := w_M_audit) B.pre
  have hown : s.vm.findClass R_M = some m.cls := findClass_of_methodNamed B.named
  have hlocks := B.notSynchronized
  subst hsz
  have hD := mw_D (sz := s.heap.size) hD0
  have hS : va_S (xA 9 am s.heap.size) s.heap s.heap [] := va_S.rf
  have hl := lv_entry ([.ref (am 0), .int fr, .int to]) (n := 4) (Nat.le_of_ble_eq_true rfl)
  rw [lg_entry_eq]
  generalize (lg_sl ([.ref (am 0), .int fr, .int to]) ++ List.replicate (4 - (lg_sl ([.ref (am 0), .int fr, .int to])).length) Slot.unset).toArray = ls at hl ⊢
  have hl : lv_has ls 4 [(0, .ref (am 0)), (1, .int fr), (2, .int to)] := hl
  refine lv_aload_n hx hb d_M_audit_0 rfl (lv_at hl 0 rfl) ?_
  refine lv_iconst (v := nI 1) hx hb d_M_audit_1 (by decide) ?_
  refine lv_aload_n hx hb d_M_audit_2 rfl (lv_at hl 0 rfl) ?_
  refine va_get (D := (dC, dI)) (ci := 5) (v := .int (nI 1)) (C := R_M) (T := F_M) (N := 20) hx hb hts (fun w h => List.mem_cons_of_mem _ (in_M w h)) hown hK hP 0 rfl rfl 5 (by decide) (hts (.fieldLink R_M 23 R_M "on" "Z") (List.mem_cons_of_mem _ t_717)) (fun _ h9 => h9) rfl d_M_audit_3 ?_
  refine lv_if_ne (tgt := 13) hx hb d_M_audit_6 (by decide) (fun c6 => ?_) (fun c6 => ?_)
  ·
    have c6 := cz_ne_t (by omega) c6
    refine lv_iconst (v := nI 0) hx hb d_M_audit_13 (by decide) ?_
    have hSz := hS.1
    refine va_calli (va_runV (C := R_M) (As := [.int (nI 1), .int (nI 0)]) (rest := []) ⟨hx, hb, hml, hown, hts⟩ (c_M_fails_0 l dC dI am cm s.heap.size th mw mwr mfl mact (nI 1) (-1) (nI 0) mlog mlive had (nI 0) (-1) (nI 0) (nI 0) (nI 0) pg pla sou fou (nI 1) ) (cwV 2 hts (g_V t_784 t_786 s_22 t_6 t_787) rfl rfl rfl (by decide +kernel) ⟨by decide, by decide⟩) (xP_v hP hK hD 0 rfl rfl) rfl rfl hl.1 rfl (lv_room (Nat.le_of_ble_eq_true rfl)) d_M_audit_14 ⟨Nat.le_refl _, Nat.le_refl _⟩) hS (fun q _ h => xA_up hS.1 q h) (fun q h => xA_up hS.1 q h) (fun r14 u14 t H1 locs1 ht hvm q14 hB hz1 hk1 hS => ?_)
    obtain ⟨hP1, hK1, hD1⟩ := hB
    rw [ht] at hP1
    have hD : va_D (xA 9 am s.heap.size) (mw_ am cm (nI 0) mw mwr mfl mact (nI 1) (-1) (nI 0) mlog mlive had (nI 0) (-1) (nI 0) (nI 0) (nI 0) pg pla sou fou) := hD1.weaken (fun _ q _ h => xA_up hSz _ h)
    have hP : va_P (dC, dI) vwCl (mw_ am cm (nI 0) mw mwr mfl mact (nI 1) (-1) (nI 0) mlog mlive had (nI 0) (-1) (nI 0) (nI 0) (nI 0) pg pla sou fou) H1 := hP1
    generalize H1 = H at hP hS ⊢
    generalize locs1 = locs at hS ⊢
    subst q14
    refine lv_if_eq (tgt := 22) hx hb d_M_audit_17 (by decide) (fun c17 => ?_) (fun c17 => ?_)
    ·
      have c17 := cz_eq_t (by omega) c17
      refine lv_iconst (v := nI 1) hx hb d_M_audit_22 (by decide) ?_
      refine lv_istore_n hx hb d_M_audit_23 rfl hl (by decide) rfl (fun ls hl => ?_)
      have hl : lv_has ls 4 [(3, .int (nI 1)), (0, .ref (am 0)), (1, .int fr), (2, .int to)] := hl
      refine lv_iload_n hx hb d_M_audit_24 rfl (lv_at hl 0 rfl) ?_
      refine lv_aload_n hx hb d_M_audit_25 rfl (lv_at hl 1 rfl) ?_
      refine vp_callSi (va_runV (C := R_M) (As := []) (rest := [.int (nI 1)]) ⟨hx, hb, hml, hown, hts⟩ (c_M_tickets_f l dC dI am cm (nI 0) mw mwr mfl mact (nI 1) (-1) (nI 0) mlog mlive had (nI 0) (-1) (nI 0) (nI 0) (nI 0) pg pla sou fou  ) (cwV 0 hts (g_V t_865 t_867 s_39 t_6 t_868) rfl rfl rfl (by decide +kernel) ⟨by decide, by decide⟩) (xR_v hP hK 0 rfl rfl) rfl rfl hl.1 rfl (lv_room (Nat.le_of_ble_eq_true rfl)) d_M_audit_26 ⟨Nat.le_refl _, Nat.le_refl _⟩).run (fun r26 q26 => ?_)
      subst q26
      refine lv_icmp_gt (tgt := 62) hx hb d_M_audit_29 (by decide) (fun c29 => ?_) (fun c29 => ?_)
      ·
        have c29 := cd_gt_t (by omega) (by omega) c29
        refine lv_iconst (v := nI 0) hx hb d_M_audit_62 (by decide) ?_
        exact W.iret (v := nI 0) hx hb hr (fun t ht hW => ⟨⟨nI 0, (), rfl, by first | rfl | trivial | omega, ⟨by rw [ht]; exact hP, va_K.moved hW.alike hK, hD⟩⟩, hS.F ht⟩) hS.2.2 d_M_audit_63
      ·
        exact absurd c29 (by decide)
    ·
      exact absurd c17 (by decide)
  ·
    exact absurd c6 (by decide)
set_option maxHeartbeats 4000000 in
set_option maxRecDepth 100000 in
theorem c_M_exportByte_f (l : Launch) (dC : Nat → ClassId) (dI : Nat → Nat → Nat) (am cm : Nat → Nat) (sz : Nat) (th : Int32) (mw mwr mfl mact : Nat → Int32) (on cut mrec : Int32) (mlog mlive had : Nat → Int32) (mser mcur mrd mwt worn : Int32) (pg : Nat → Int32) (pla sou fou : Int32) (fr to ix : Int32) : Met l y_M_exportByte w_M_exportByte ({ frames := 1, cells := 0, slots := 0, locals := 22 }) (xP (dC, dI) vwCl (mt cm) (mw_ am cm th mw mwr mfl mact (nI 1) (-1) (nI 0) mlog mlive had (nI 0) (-1) (nI 0) (nI 0) (nI 0) pg pla sou fou) sz [.ref (am 0), .int fr, .int to, .int ix]) (va_Qi (fun r (u : Unit) => r = -1) (fun (u : Unit) (t : State) => xB (dC, dI) vwCl (mt cm) (xA 9 am sz) (mw_ am cm (nI 0) mw mwr mfl mact (nI 1) (-1) (nI 0) mlog mlive had (nI 0) (-1) (nI 0) (nI 0) (nI 0) pg (nI 0) ix (-1)) t) (xA 9 am sz)) 0 0 (xA 9 am sz) := by
  refine Met.ofW (cc := b_M_exportByte) (maxL := 6) (ret := (some (.int))) (by decide) rfl ?_
  intro P e s m args below meth c0 s₁ B hml hv
  obtain ⟨rfl, hsz, hP, hK, hD0⟩ := hv
  have hx := B.exec
  have hb := B.bytes
  have hr := B.returns
  have hts := atoms_spec (ws := w_M_exportByte) B.pre
  have hown : s.vm.findClass R_M = some m.cls := findClass_of_methodNamed B.named
  have hlocks := B.notSynchronized
  subst hsz
  have hD := mw_D (sz := s.heap.size) hD0
  have hS : va_S (xA 9 am s.heap.size) s.heap s.heap [] := va_S.rf
  have hl := lv_entry ([.ref (am 0), .int fr, .int to, .int ix]) (n := 6) (Nat.le_of_ble_eq_true rfl)
  rw [lg_entry_eq]
  generalize (lg_sl ([.ref (am 0), .int fr, .int to, .int ix]) ++ List.replicate (6 - (lg_sl ([.ref (am 0), .int fr, .int to, .int ix])).length) Slot.unset).toArray = ls at hl ⊢
  have hl : lv_has ls 6 [(0, .ref (am 0)), (1, .int fr), (2, .int to), (3, .int ix)] := hl
  refine lv_aload_n hx hb d_M_exportByte_0 rfl (lv_at hl 0 rfl) ?_
  refine lv_iconst (v := nI 1) hx hb d_M_exportByte_1 (by decide) ?_
  refine lv_aload_n hx hb d_M_exportByte_2 rfl (lv_at hl 0 rfl) ?_
  refine va_get (D := (dC, dI)) (ci := 5) (v := .int (nI 1)) (C := R_M) (T := F_M) (N := 20) hx hb hts (fun w h => List.mem_cons_of_mem _ (in_M w h)) hown hK hP 0 rfl rfl 5 (by decide) (hts (.fieldLink R_M 23 R_M "on" "Z") (List.mem_cons_of_mem _ t_717)) (fun _ h9 => h9) rfl d_M_exportByte_3 ?_
  refine lv_if_ne (tgt := 13) hx hb d_M_exportByte_6 (by decide) (fun c6 => ?_) (fun c6 => ?_)
  ·
    have c6 := cz_ne_t (by omega) c6
    refine lv_iconst (v := nI 0) hx hb d_M_exportByte_13 (by decide) ?_
    have hSz := hS.1
    refine va_calli (va_runV (C := R_M) (As := [.int (nI 1), .int (nI 0)]) (rest := []) ⟨hx, hb, hml, hown, hts⟩ (c_M_fails_0 l dC dI am cm s.heap.size th mw mwr mfl mact (nI 1) (-1) (nI 0) mlog mlive had (nI 0) (-1) (nI 0) (nI 0) (nI 0) pg pla sou fou (nI 1) ) (cwV 2 hts (g_V t_784 t_786 s_22 t_6 t_787) rfl rfl rfl (by decide +kernel) ⟨by decide, by decide⟩) (xP_v hP hK hD 0 rfl rfl) rfl rfl hl.1 rfl (lv_room (Nat.le_of_ble_eq_true rfl)) d_M_exportByte_14 ⟨Nat.le_refl _, Nat.le_refl _⟩) hS (fun q _ h => xA_up hS.1 q h) (fun q h => xA_up hS.1 q h) (fun r14 u14 t H1 locs1 ht hvm q14 hB hz1 hk1 hS => ?_)
    obtain ⟨hP1, hK1, hD1⟩ := hB
    rw [ht] at hP1
    have hD : va_D (xA 9 am s.heap.size) (mw_ am cm (nI 0) mw mwr mfl mact (nI 1) (-1) (nI 0) mlog mlive had (nI 0) (-1) (nI 0) (nI 0) (nI 0) pg pla sou fou) := hD1.weaken (fun _ q _ h => xA_up hSz _ h)
    have hP : va_P (dC, dI) vwCl (mw_ am cm (nI 0) mw mwr mfl mact (nI 1) (-1) (nI 0) mlog mlive had (nI 0) (-1) (nI 0) (nI 0) (nI 0) pg pla sou fou) H1 := hP1
    generalize H1 = H at hP hS ⊢
    generalize locs1 = locs at hS ⊢
    subst q14
    refine lv_if_eq (tgt := 22) hx hb d_M_exportByte_17 (by decide) (fun c17 => ?_) (fun c17 => ?_)
    ·
      have c17 := cz_eq_t (by omega) c17
      refine lv_aload_n hx hb d_M_exportByte_22 rfl (lv_at hl 0 rfl) ?_
      refine lv_iconst (v := nI 0) hx hb d_M_exportByte_23 (by decide) ?_
      refine va_put (D := (dC, dI)) (ci := 5) (v := .int (nI 0)) (ty := .int) (C := R_M) (T := F_M) (N := 20) hx hb hts (fun w h => List.mem_cons_of_mem _ (in_M w h)) t_M ok_M nm_M hown hK hP hD hS 0 rfl rfl 17 (by decide) (hts (.fieldLink R_M 172 R_M "place" "I") (List.mem_cons_of_mem _ t_729)) (fun _ h9 => h9) rfl (by decide +kernel) rfl rfl (Nat.le_of_ble_eq_true rfl) d_M_exportByte_24 (fun H locs hP hD hS => ?_)
      have hP : va_P (dC, dI) vwCl (mw_ am cm (nI 0) mw mwr mfl mact (nI 1) (-1) (nI 0) mlog mlive had (nI 0) (-1) (nI 0) (nI 0) (nI 0) pg (nI 0) sou fou) H := hP
      have hD : va_D (xA 9 am s.heap.size) (mw_ am cm (nI 0) mw mwr mfl mact (nI 1) (-1) (nI 0) mlog mlive had (nI 0) (-1) (nI 0) (nI 0) (nI 0) pg (nI 0) sou fou) := hD
      refine lv_aload_n hx hb d_M_exportByte_27 rfl (lv_at hl 0 rfl) ?_
      refine lv_iload_n hx hb d_M_exportByte_28 rfl (lv_at hl 3 rfl) ?_
      refine va_put (D := (dC, dI)) (ci := 5) (v := .int ix) (ty := .int) (C := R_M) (T := F_M) (N := 20) hx hb hts (fun w h => List.mem_cons_of_mem _ (in_M w h)) t_M ok_M nm_M hown hK hP hD hS 0 rfl rfl 18 (by decide) (hts (.fieldLink R_M 175 R_M "sought" "I") (List.mem_cons_of_mem _ t_730)) (fun _ h9 => h9) rfl (by decide +kernel) rfl rfl (Nat.le_of_ble_eq_true rfl) d_M_exportByte_29 (fun H locs hP hD hS => ?_)
      have hP : va_P (dC, dI) vwCl (mw_ am cm (nI 0) mw mwr mfl mact (nI 1) (-1) (nI 0) mlog mlive had (nI 0) (-1) (nI 0) (nI 0) (nI 0) pg (nI 0) ix fou) H := hP
      have hD : va_D (xA 9 am s.heap.size) (mw_ am cm (nI 0) mw mwr mfl mact (nI 1) (-1) (nI 0) mlog mlive had (nI 0) (-1) (nI 0) (nI 0) (nI 0) pg (nI 0) ix fou) := hD
      refine lv_aload_n hx hb d_M_exportByte_32 rfl (lv_at hl 0 rfl) ?_
      refine lv_iconst (v := (-1)) hx hb d_M_exportByte_33 (by decide) ?_
      refine va_put (D := (dC, dI)) (ci := 5) (v := .int (-1)) (ty := .int) (C := R_M) (T := F_M) (N := 20) hx hb hts (fun w h => List.mem_cons_of_mem _ (in_M w h)) t_M ok_M nm_M hown hK hP hD hS 0 rfl rfl 19 (by decide) (hts (.fieldLink R_M 178 R_M "found" "I") (List.mem_cons_of_mem _ t_731)) (fun _ h9 => h9) rfl (by decide +kernel) rfl rfl (Nat.le_of_ble_eq_true rfl) d_M_exportByte_34 (fun H locs hP hD hS => ?_)
      have hP : va_P (dC, dI) vwCl (mw_ am cm (nI 0) mw mwr mfl mact (nI 1) (-1) (nI 0) mlog mlive had (nI 0) (-1) (nI 0) (nI 0) (nI 0) pg (nI 0) ix (-1)) H := hP
      have hD : va_D (xA 9 am s.heap.size) (mw_ am cm (nI 0) mw mwr mfl mact (nI 1) (-1) (nI 0) mlog mlive had (nI 0) (-1) (nI 0) (nI 0) (nI 0) pg (nI 0) ix (-1)) := hD
      refine lv_iconst (v := nI 1) hx hb d_M_exportByte_37 (by decide) ?_
      refine lv_istore hx hb d_M_exportByte_38 hl (by decide) rfl (fun ls hl => ?_)
      have hl : lv_has ls 6 [(4, .int (nI 1)), (0, .ref (am 0)), (1, .int fr), (2, .int to), (3, .int ix)] := hl
      refine lv_iload hx hb d_M_exportByte_40 (lv_at hl 0 rfl) ?_
      refine lv_aload_n hx hb d_M_exportByte_42 rfl (lv_at hl 1 rfl) ?_
      refine vp_callSi (va_runV (C := R_M) (As := []) (rest := [.int (nI 1)]) ⟨hx, hb, hml, hown, hts⟩ (c_M_tickets_f l dC dI am cm (nI 0) mw mwr mfl mact (nI 1) (-1) (nI 0) mlog mlive had (nI 0) (-1) (nI 0) (nI 0) (nI 0) pg (nI 0) ix (-1)  ) (cwV 0 hts (g_V t_865 t_867 s_39 t_6 t_868) rfl rfl rfl (by decide +kernel) ⟨by decide, by decide⟩) (xR_v hP hK 0 rfl rfl) rfl rfl hl.1 rfl (lv_room (Nat.le_of_ble_eq_true rfl)) d_M_exportByte_43 ⟨Nat.le_refl _, Nat.le_refl _⟩).run (fun r43 q43 => ?_)
      subst q43
      refine lv_icmp_gt (tgt := 168) hx hb d_M_exportByte_46 (by decide) (fun c46 => ?_) (fun c46 => ?_)
      ·
        have c46 := cd_gt_t (by omega) (by omega) c46
        refine lv_aload_n hx hb d_M_exportByte_168 rfl (lv_at hl 1 rfl) ?_
        refine va_get (D := (dC, dI)) (ci := 5) (v := .int (-1)) (C := R_M) (T := F_M) (N := 20) hx hb hts (fun w h => List.mem_cons_of_mem _ (in_M w h)) hown hK hP 0 rfl rfl 19 (by decide) (hts (.fieldLink R_M 178 R_M "found" "I") (List.mem_cons_of_mem _ t_731)) (fun _ h9 => h9) rfl d_M_exportByte_169 ?_
        exact W.iret (v := (-1)) hx hb hr (fun t ht hW => ⟨⟨(-1), (), rfl, by first | rfl | trivial | omega, ⟨by rw [ht]; exact hP, va_K.moved hW.alike hK, hD⟩⟩, hS.F ht⟩) hS.2.2 d_M_exportByte_172
      ·
        exact absurd c46 (by decide)
    ·
      exact absurd c17 (by decide)
  ·
    exact absurd c6 (by decide)
end
