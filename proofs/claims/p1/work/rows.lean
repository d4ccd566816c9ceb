section
-- ===== PART A: goes FIRST, ahead of the names: the tables' words, and 'selects' of the private methods out of them =====
/-- a private method of a class that the tables say can be made, by its rows of tables_1 -/
def lw_okq (q : MethodName × Nat) : Prop := (q.1.cls ≠ "java/lang/invoke/MethodHandle" ∧ q.1.cls ≠ "java/lang/invoke/VarHandle") ∧ Cond.instantiable q.1.cls q.2 ∈ tables_1 ∧ Cond.privateMethod q.1 ∈ tables_1 ∧ Cond.instanceMethod q.1 ∈ tables_1
theorem lw_p0 : lw_okq (⟨"WeighRecorder", "forgetReadings", "()V"⟩, 7) := ⟨⟨by decide +kernel, by decide +kernel⟩, List.mem_of_getElem? (i := 15) (by decide +kernel), List.mem_of_getElem? (i := 149) (by decide +kernel), List.mem_of_getElem? (i := 150) (by decide +kernel)⟩
theorem lw_p1 : lw_okq (⟨"WeighRecorder$Store", "findNewestPages", "()I"⟩, 7) := ⟨⟨by decide +kernel, by decide +kernel⟩, List.mem_of_getElem? (i := 23) (by decide +kernel), List.mem_of_getElem? (i := 157) (by decide +kernel), List.mem_of_getElem? (i := 158) (by decide +kernel)⟩
theorem lw_p2 : lw_okq (⟨"WeighRecorder$Store", "newerOf", "(II)I"⟩, 7) := ⟨⟨by decide +kernel, by decide +kernel⟩, List.mem_of_getElem? (i := 23) (by decide +kernel), List.mem_of_getElem? (i := 175) (by decide +kernel), List.mem_of_getElem? (i := 176) (by decide +kernel)⟩
theorem lw_p3 : lw_okq (⟨"WeighRecorder$Store", "readLeaf", "(LWeighRecorder$Log;I)I"⟩, 7) := ⟨⟨by decide +kernel, by decide +kernel⟩, List.mem_of_getElem? (i := 23) (by decide +kernel), List.mem_of_getElem? (i := 183) (by decide +kernel), List.mem_of_getElem? (i := 184) (by decide +kernel)⟩
theorem lw_p4 : lw_okq (⟨"WeighRecorder$Log", "applyVoiding", "(II)V"⟩, 5) := ⟨⟨by decide +kernel, by decide +kernel⟩, List.mem_of_getElem? (i := 79) (by decide +kernel), List.mem_of_getElem? (i := 195) (by decide +kernel), List.mem_of_getElem? (i := 196) (by decide +kernel)⟩
theorem lw_p5 : lw_okq (⟨"WeighRecorder$Store", "isLive", "(I)Z"⟩, 7) := ⟨⟨by decide +kernel, by decide +kernel⟩, List.mem_of_getElem? (i := 23) (by decide +kernel), List.mem_of_getElem? (i := 239) (by decide +kernel), List.mem_of_getElem? (i := 240) (by decide +kernel)⟩
theorem lw_p6 : lw_okq (⟨"java/lang/Throwable", "fillInStackTrace", "(I)Ljava/lang/Throwable;"⟩, 6) := ⟨⟨by decide +kernel, by decide +kernel⟩, List.mem_of_getElem? (i := 314) (by decide +kernel), List.mem_of_getElem? (i := 312) (by decide +kernel), List.mem_of_getElem? (i := 313) (by decide +kernel)⟩
theorem lw_p7 : lw_okq (⟨"WeighRecorder", "append", "(III)I"⟩, 7) := ⟨⟨by decide +kernel, by decide +kernel⟩, List.mem_of_getElem? (i := 15) (by decide +kernel), List.mem_of_getElem? (i := 370) (by decide +kernel), List.mem_of_getElem? (i := 371) (by decide +kernel)⟩
theorem lw_p8 : lw_okq (⟨"WeighRecorder$Store", "freePageOfCursor", "()I"⟩, 7) := ⟨⟨by decide +kernel, by decide +kernel⟩, List.mem_of_getElem? (i := 23) (by decide +kernel), List.mem_of_getElem? (i := 392) (by decide +kernel), List.mem_of_getElem? (i := 393) (by decide +kernel)⟩
theorem lw_p9 : lw_okq (⟨"WeighRecorder$Store", "chooseVictim", "()I"⟩, 7) := ⟨⟨by decide +kernel, by decide +kernel⟩, List.mem_of_getElem? (i := 23) (by decide +kernel), List.mem_of_getElem? (i := 412) (by decide +kernel), List.mem_of_getElem? (i := 413) (by decide +kernel)⟩
theorem lw_p10 : lw_okq (⟨"WeighRecorder$Store", "stalePagesOf", "(I)I"⟩, 7) := ⟨⟨by decide +kernel, by decide +kernel⟩, List.mem_of_getElem? (i := 23) (by decide +kernel), List.mem_of_getElem? (i := 416) (by decide +kernel), List.mem_of_getElem? (i := 417) (by decide +kernel)⟩
theorem lw_p11 : lw_okq (⟨"WeighRecorder$Store", "reclaim", "(I)I"⟩, 7) := ⟨⟨by decide +kernel, by decide +kernel⟩, List.mem_of_getElem? (i := 23) (by decide +kernel), List.mem_of_getElem? (i := 421) (by decide +kernel), List.mem_of_getElem? (i := 422) (by decide +kernel)⟩
theorem lw_p12 : lw_okq (⟨"WeighRecorder$Store", "hasLivePages", "(I)Z"⟩, 7) := ⟨⟨by decide +kernel, by decide +kernel⟩, List.mem_of_getElem? (i := 23) (by decide +kernel), List.mem_of_getElem? (i := 425) (by decide +kernel), List.mem_of_getElem? (i := 426) (by decide +kernel)⟩
theorem lw_p13 : lw_okq (⟨"WeighRecorder$Chip", "mayStep", "()Z"⟩, 5) := ⟨⟨by decide +kernel, by decide +kernel⟩, List.mem_of_getElem? (i := 29) (by decide +kernel), List.mem_of_getElem? (i := 433) (by decide +kernel), List.mem_of_getElem? (i := 434) (by decide +kernel)⟩
theorem lw_p14 : lw_okq (⟨"WeighRecorder$Store", "evacuate", "(I)I"⟩, 7) := ⟨⟨by decide +kernel, by decide +kernel⟩, List.mem_of_getElem? (i := 23) (by decide +kernel), List.mem_of_getElem? (i := 441) (by decide +kernel), List.mem_of_getElem? (i := 442) (by decide +kernel)⟩
theorem lw_p15 : lw_okq (⟨"WeighRecorder$Store", "rewritePage", "(II)Z"⟩, 7) := ⟨⟨by decide +kernel, by decide +kernel⟩, List.mem_of_getElem? (i := 23) (by decide +kernel), List.mem_of_getElem? (i := 445) (by decide +kernel), List.mem_of_getElem? (i := 446) (by decide +kernel)⟩
def lw_privs_1 : List (MethodName × Nat) := [(⟨"WeighRecorder", "forgetReadings", "()V"⟩, 7), (⟨"WeighRecorder$Store", "findNewestPages", "()I"⟩, 7), (⟨"WeighRecorder$Store", "newerOf", "(II)I"⟩, 7), (⟨"WeighRecorder$Store", "readLeaf", "(LWeighRecorder$Log;I)I"⟩, 7), (⟨"WeighRecorder$Log", "applyVoiding", "(II)V"⟩, 5), (⟨"WeighRecorder$Store", "isLive", "(I)Z"⟩, 7), (⟨"java/lang/Throwable", "fillInStackTrace", "(I)Ljava/lang/Throwable;"⟩, 6), (⟨"WeighRecorder", "append", "(III)I"⟩, 7), (⟨"WeighRecorder$Store", "freePageOfCursor", "()I"⟩, 7), (⟨"WeighRecorder$Store", "chooseVictim", "()I"⟩, 7), (⟨"WeighRecorder$Store", "stalePagesOf", "(I)I"⟩, 7), (⟨"WeighRecorder$Store", "reclaim", "(I)I"⟩, 7), (⟨"WeighRecorder$Store", "hasLivePages", "(I)Z"⟩, 7), (⟨"WeighRecorder$Chip", "mayStep", "()Z"⟩, 5), (⟨"WeighRecorder$Store", "evacuate", "(I)I"⟩, 7), (⟨"WeighRecorder$Store", "rewritePage", "(II)Z"⟩, 7)]
theorem lw_r1 : ∀ q ∈ lw_privs_1, lw_okq q := List.forall_mem_cons.mpr ⟨lw_p0, List.forall_mem_cons.mpr ⟨lw_p1, List.forall_mem_cons.mpr ⟨lw_p2, List.forall_mem_cons.mpr ⟨lw_p3, List.forall_mem_cons.mpr ⟨lw_p4, List.forall_mem_cons.mpr ⟨lw_p5, List.forall_mem_cons.mpr ⟨lw_p6, List.forall_mem_cons.mpr ⟨lw_p7, List.forall_mem_cons.mpr ⟨lw_p8, List.forall_mem_cons.mpr ⟨lw_p9, List.forall_mem_cons.mpr ⟨lw_p10, List.forall_mem_cons.mpr ⟨lw_p11, List.forall_mem_cons.mpr ⟨lw_p12, List.forall_mem_cons.mpr ⟨lw_p13, List.forall_mem_cons.mpr ⟨lw_p14, List.forall_mem_cons.mpr ⟨lw_p15, fun _ h => absurd h List.not_mem_nil⟩⟩⟩⟩⟩⟩⟩⟩⟩⟩⟩⟩⟩⟩⟩⟩
theorem lw_p16 : lw_okq (⟨"WeighRecorder$Store", "sealRow", "()V"⟩, 7) := ⟨⟨by decide +kernel, by decide +kernel⟩, List.mem_of_getElem? (i := 23) (by decide +kernel), List.mem_of_getElem? (i := 449) (by decide +kernel), List.mem_of_getElem? (i := 450) (by decide +kernel)⟩
theorem lw_p17 : lw_okq (⟨"WeighRecorder$Log", "wordOf", "(II)I"⟩, 5) := ⟨⟨by decide +kernel, by decide +kernel⟩, List.mem_of_getElem? (i := 79) (by decide +kernel), List.mem_of_getElem? (i := 514) (by decide +kernel), List.mem_of_getElem? (i := 515) (by decide +kernel)⟩
theorem lw_p18 : lw_okq (⟨"WeighRecorder$Store", "sumBefore", "(I)I"⟩, 7) := ⟨⟨by decide +kernel, by decide +kernel⟩, List.mem_of_getElem? (i := 23) (by decide +kernel), List.mem_of_getElem? (i := 597) (by decide +kernel), List.mem_of_getElem? (i := 598) (by decide +kernel)⟩
theorem lw_p19 : lw_okq (⟨"WeighRecorder$Line", "addNumber", "(I)V"⟩, 2) := ⟨⟨by decide +kernel, by decide +kernel⟩, List.mem_of_getElem? (i := 101) (by decide +kernel), List.mem_of_getElem? (i := 616) (by decide +kernel), List.mem_of_getElem? (i := 617) (by decide +kernel)⟩
theorem lw_p20 : lw_okq (⟨"WeighRecorder$Line", "addByte", "(I)V"⟩, 2) := ⟨⟨by decide +kernel, by decide +kernel⟩, List.mem_of_getElem? (i := 101) (by decide +kernel), List.mem_of_getElem? (i := 620) (by decide +kernel), List.mem_of_getElem? (i := 621) (by decide +kernel)⟩
theorem lw_p21 : lw_okq (⟨"WeighRecorderModel", "forget", "()V"⟩, 20) := ⟨⟨by decide +kernel, by decide +kernel⟩, List.mem_of_getElem? (i := 703) (by decide +kernel), List.mem_of_getElem? (i := 709) (by decide +kernel), List.mem_of_getElem? (i := 710) (by decide +kernel)⟩
theorem lw_p22 : lw_okq (⟨"WeighRecorderModel", "fails", "(IZ)Z"⟩, 20) := ⟨⟨by decide +kernel, by decide +kernel⟩, List.mem_of_getElem? (i := 703) (by decide +kernel), List.mem_of_getElem? (i := 785) (by decide +kernel), List.mem_of_getElem? (i := 786) (by decide +kernel)⟩
theorem lw_p23 : lw_okq (⟨"WeighRecorderModel", "take", "(III)I"⟩, 20) := ⟨⟨by decide +kernel, by decide +kernel⟩, List.mem_of_getElem? (i := 703) (by decide +kernel), List.mem_of_getElem? (i := 797) (by decide +kernel), List.mem_of_getElem? (i := 798) (by decide +kernel)⟩
theorem lw_p24 : lw_okq (⟨"WeighRecorderModel", "sumOf", "([III)I"⟩, 20) := ⟨⟨by decide +kernel, by decide +kernel⟩, List.mem_of_getElem? (i := 703) (by decide +kernel), List.mem_of_getElem? (i := 801) (by decide +kernel), List.mem_of_getElem? (i := 802) (by decide +kernel)⟩
theorem lw_p25 : lw_okq (⟨"WeighRecorderModel", "writeLeaf", "(II)I"⟩, 20) := ⟨⟨by decide +kernel, by decide +kernel⟩, List.mem_of_getElem? (i := 703) (by decide +kernel), List.mem_of_getElem? (i := 809) (by decide +kernel), List.mem_of_getElem? (i := 810) (by decide +kernel)⟩
theorem lw_p26 : lw_okq (⟨"WeighRecorderModel", "makeRoom", "()I"⟩, 20) := ⟨⟨by decide +kernel, by decide +kernel⟩, List.mem_of_getElem? (i := 703) (by decide +kernel), List.mem_of_getElem? (i := 813) (by decide +kernel), List.mem_of_getElem? (i := 814) (by decide +kernel)⟩
theorem lw_p27 : lw_okq (⟨"WeighRecorderModel", "firstFree", "(I)I"⟩, 20) := ⟨⟨by decide +kernel, by decide +kernel⟩, List.mem_of_getElem? (i := 703) (by decide +kernel), List.mem_of_getElem? (i := 817) (by decide +kernel), List.mem_of_getElem? (i := 818) (by decide +kernel)⟩
theorem lw_p28 : lw_okq (⟨"WeighRecorderModel", "isFree", "(I)Z"⟩, 20) := ⟨⟨by decide +kernel, by decide +kernel⟩, List.mem_of_getElem? (i := 703) (by decide +kernel), List.mem_of_getElem? (i := 821) (by decide +kernel), List.mem_of_getElem? (i := 822) (by decide +kernel)⟩
theorem lw_p29 : lw_okq (⟨"WeighRecorderModel", "isClean", "(I)Z"⟩, 20) := ⟨⟨by decide +kernel, by decide +kernel⟩, List.mem_of_getElem? (i := 703) (by decide +kernel), List.mem_of_getElem? (i := 825) (by decide +kernel), List.mem_of_getElem? (i := 826) (by decide +kernel)⟩
theorem lw_p30 : lw_okq (⟨"WeighRecorderModel", "victim", "()I"⟩, 20) := ⟨⟨by decide +kernel, by decide +kernel⟩, List.mem_of_getElem? (i := 703) (by decide +kernel), List.mem_of_getElem? (i := 829) (by decide +kernel), List.mem_of_getElem? (i := 830) (by decide +kernel)⟩
theorem lw_p31 : lw_okq (⟨"WeighRecorderModel", "staleOf", "(I)I"⟩, 20) := ⟨⟨by decide +kernel, by decide +kernel⟩, List.mem_of_getElem? (i := 703) (by decide +kernel), List.mem_of_getElem? (i := 833) (by decide +kernel), List.mem_of_getElem? (i := 834) (by decide +kernel)⟩
def lw_privs_2 : List (MethodName × Nat) := [(⟨"WeighRecorder$Store", "sealRow", "()V"⟩, 7), (⟨"WeighRecorder$Log", "wordOf", "(II)I"⟩, 5), (⟨"WeighRecorder$Store", "sumBefore", "(I)I"⟩, 7), (⟨"WeighRecorder$Line", "addNumber", "(I)V"⟩, 2), (⟨"WeighRecorder$Line", "addByte", "(I)V"⟩, 2), (⟨"WeighRecorderModel", "forget", "()V"⟩, 20), (⟨"WeighRecorderModel", "fails", "(IZ)Z"⟩, 20), (⟨"WeighRecorderModel", "take", "(III)I"⟩, 20), (⟨"WeighRecorderModel", "sumOf", "([III)I"⟩, 20), (⟨"WeighRecorderModel", "writeLeaf", "(II)I"⟩, 20), (⟨"WeighRecorderModel", "makeRoom", "()I"⟩, 20), (⟨"WeighRecorderModel", "firstFree", "(I)I"⟩, 20), (⟨"WeighRecorderModel", "isFree", "(I)Z"⟩, 20), (⟨"WeighRecorderModel", "isClean", "(I)Z"⟩, 20), (⟨"WeighRecorderModel", "victim", "()I"⟩, 20), (⟨"WeighRecorderModel", "staleOf", "(I)I"⟩, 20)]
theorem lw_r2 : ∀ q ∈ lw_privs_2, lw_okq q := List.forall_mem_cons.mpr ⟨lw_p16, List.forall_mem_cons.mpr ⟨lw_p17, List.forall_mem_cons.mpr ⟨lw_p18, List.forall_mem_cons.mpr ⟨lw_p19, List.forall_mem_cons.mpr ⟨lw_p20, List.forall_mem_cons.mpr ⟨lw_p21, List.forall_mem_cons.mpr ⟨lw_p22, List.forall_mem_cons.mpr ⟨lw_p23, List.forall_mem_cons.mpr ⟨lw_p24, List.forall_mem_cons.mpr ⟨lw_p25, List.forall_mem_cons.mpr ⟨lw_p26, List.forall_mem_cons.mpr ⟨lw_p27, List.forall_mem_cons.mpr ⟨lw_p28, List.forall_mem_cons.mpr ⟨lw_p29, List.forall_mem_cons.mpr ⟨lw_p30, List.forall_mem_cons.mpr ⟨lw_p31, fun _ h => absurd h List.not_mem_nil⟩⟩⟩⟩⟩⟩⟩⟩⟩⟩⟩⟩⟩⟩⟩⟩
theorem lw_p32 : lw_okq (⟨"WeighRecorderModel", "isLive", "(I)Z"⟩, 20) := ⟨⟨by decide +kernel, by decide +kernel⟩, List.mem_of_getElem? (i := 703) (by decide +kernel), List.mem_of_getElem? (i := 837) (by decide +kernel), List.mem_of_getElem? (i := 838) (by decide +kernel)⟩
theorem lw_p33 : lw_okq (⟨"WeighRecorderModel", "move", "(I)Z"⟩, 20) := ⟨⟨by decide +kernel, by decide +kernel⟩, List.mem_of_getElem? (i := 703) (by decide +kernel), List.mem_of_getElem? (i := 841) (by decide +kernel), List.mem_of_getElem? (i := 842) (by decide +kernel)⟩
theorem lw_p34 : lw_okq (⟨"WeighRecorderModel", "write", "(II)Z"⟩, 20) := ⟨⟨by decide +kernel, by decide +kernel⟩, List.mem_of_getElem? (i := 703) (by decide +kernel), List.mem_of_getElem? (i := 845) (by decide +kernel), List.mem_of_getElem? (i := 846) (by decide +kernel)⟩
theorem lw_p35 : lw_okq (⟨"WeighRecorderModel", "step", "()Z"⟩, 20) := ⟨⟨by decide +kernel, by decide +kernel⟩, List.mem_of_getElem? (i := 703) (by decide +kernel), List.mem_of_getElem? (i := 850) (by decide +kernel), List.mem_of_getElem? (i := 851) (by decide +kernel)⟩
theorem lw_p36 : lw_okq (⟨"WeighRecorderModel", "off", "()V"⟩, 20) := ⟨⟨by decide +kernel, by decide +kernel⟩, List.mem_of_getElem? (i := 703) (by decide +kernel), List.mem_of_getElem? (i := 854) (by decide +kernel), List.mem_of_getElem? (i := 855) (by decide +kernel)⟩
theorem lw_p37 : lw_okq (⟨"WeighRecorderModel", "erase", "(I)Z"⟩, 20) := ⟨⟨by decide +kernel, by decide +kernel⟩, List.mem_of_getElem? (i := 703) (by decide +kernel), List.mem_of_getElem? (i := 858) (by decide +kernel), List.mem_of_getElem? (i := 859) (by decide +kernel)⟩
theorem lw_p38 : lw_okq (⟨"WeighRecorderModel", "livesOf", "(I)I"⟩, 20) := ⟨⟨by decide +kernel, by decide +kernel⟩, List.mem_of_getElem? (i := 703) (by decide +kernel), List.mem_of_getElem? (i := 862) (by decide +kernel), List.mem_of_getElem? (i := 863) (by decide +kernel)⟩
theorem lw_p39 : lw_okq (⟨"WeighRecorderModel", "tickets", "()I"⟩, 20) := ⟨⟨by decide +kernel, by decide +kernel⟩, List.mem_of_getElem? (i := 703) (by decide +kernel), List.mem_of_getElem? (i := 866) (by decide +kernel), List.mem_of_getElem? (i := 867) (by decide +kernel)⟩
theorem lw_p40 : lw_okq (⟨"WeighRecorderModel", "isVoiding", "(I)Z"⟩, 20) := ⟨⟨by decide +kernel, by decide +kernel⟩, List.mem_of_getElem? (i := 703) (by decide +kernel), List.mem_of_getElem? (i := 870) (by decide +kernel), List.mem_of_getElem? (i := 871) (by decide +kernel)⟩
theorem lw_p41 : lw_okq (⟨"WeighRecorderModel", "at", "(II)I"⟩, 20) := ⟨⟨by decide +kernel, by decide +kernel⟩, List.mem_of_getElem? (i := 703) (by decide +kernel), List.mem_of_getElem? (i := 874) (by decide +kernel), List.mem_of_getElem? (i := 875) (by decide +kernel)⟩
theorem lw_p42 : lw_okq (⟨"WeighRecorderModel", "placeOf", "(I)I"⟩, 20) := ⟨⟨by decide +kernel, by decide +kernel⟩, List.mem_of_getElem? (i := 703) (by decide +kernel), List.mem_of_getElem? (i := 882) (by decide +kernel), List.mem_of_getElem? (i := 883) (by decide +kernel)⟩
theorem lw_p43 : lw_okq (⟨"WeighRecorderModel", "voided", "(I)I"⟩, 20) := ⟨⟨by decide +kernel, by decide +kernel⟩, List.mem_of_getElem? (i := 703) (by decide +kernel), List.mem_of_getElem? (i := 886) (by decide +kernel), List.mem_of_getElem? (i := 887) (by decide +kernel)⟩
theorem lw_p44 : lw_okq (⟨"WeighRecorderModel", "durable", "()I"⟩, 20) := ⟨⟨by decide +kernel, by decide +kernel⟩, List.mem_of_getElem? (i := 703) (by decide +kernel), List.mem_of_getElem? (i := 895) (by decide +kernel), List.mem_of_getElem? (i := 896) (by decide +kernel)⟩
theorem lw_p45 : lw_okq (⟨"WeighRecorderModel", "net", "(I)I"⟩, 20) := ⟨⟨by decide +kernel, by decide +kernel⟩, List.mem_of_getElem? (i := 703) (by decide +kernel), List.mem_of_getElem? (i := 908) (by decide +kernel), List.mem_of_getElem? (i := 909) (by decide +kernel)⟩
theorem lw_p46 : lw_okq (⟨"WeighRecorderModel", "isBad", "(I)Z"⟩, 20) := ⟨⟨by decide +kernel, by decide +kernel⟩, List.mem_of_getElem? (i := 703) (by decide +kernel), List.mem_of_getElem? (i := 924) (by decide +kernel), List.mem_of_getElem? (i := 925) (by decide +kernel)⟩
theorem lw_p47 : lw_okq (⟨"WeighRecorderModel", "isRight", "(I)Z"⟩, 20) := ⟨⟨by decide +kernel, by decide +kernel⟩, List.mem_of_getElem? (i := 703) (by decide +kernel), List.mem_of_getElem? (i := 928) (by decide +kernel), List.mem_of_getElem? (i := 929) (by decide +kernel)⟩
def lw_privs_3 : List (MethodName × Nat) := [(⟨"WeighRecorderModel", "isLive", "(I)Z"⟩, 20), (⟨"WeighRecorderModel", "move", "(I)Z"⟩, 20), (⟨"WeighRecorderModel", "write", "(II)Z"⟩, 20), (⟨"WeighRecorderModel", "step", "()Z"⟩, 20), (⟨"WeighRecorderModel", "off", "()V"⟩, 20), (⟨"WeighRecorderModel", "erase", "(I)Z"⟩, 20), (⟨"WeighRecorderModel", "livesOf", "(I)I"⟩, 20), (⟨"WeighRecorderModel", "tickets", "()I"⟩, 20), (⟨"WeighRecorderModel", "isVoiding", "(I)Z"⟩, 20), (⟨"WeighRecorderModel", "at", "(II)I"⟩, 20), (⟨"WeighRecorderModel", "placeOf", "(I)I"⟩, 20), (⟨"WeighRecorderModel", "voided", "(I)I"⟩, 20), (⟨"WeighRecorderModel", "durable", "()I"⟩, 20), (⟨"WeighRecorderModel", "net", "(I)I"⟩, 20), (⟨"WeighRecorderModel", "isBad", "(I)Z"⟩, 20), (⟨"WeighRecorderModel", "isRight", "(I)Z"⟩, 20)]
theorem lw_r3 : ∀ q ∈ lw_privs_3, lw_okq q := List.forall_mem_cons.mpr ⟨lw_p32, List.forall_mem_cons.mpr ⟨lw_p33, List.forall_mem_cons.mpr ⟨lw_p34, List.forall_mem_cons.mpr ⟨lw_p35, List.forall_mem_cons.mpr ⟨lw_p36, List.forall_mem_cons.mpr ⟨lw_p37, List.forall_mem_cons.mpr ⟨lw_p38, List.forall_mem_cons.mpr ⟨lw_p39, List.forall_mem_cons.mpr ⟨lw_p40, List.forall_mem_cons.mpr ⟨lw_p41, List.forall_mem_cons.mpr ⟨lw_p42, List.forall_mem_cons.mpr ⟨lw_p43, List.forall_mem_cons.mpr ⟨lw_p44, List.forall_mem_cons.mpr ⟨lw_p45, List.forall_mem_cons.mpr ⟨lw_p46, List.forall_mem_cons.mpr ⟨lw_p47, fun _ h => absurd h List.not_mem_nil⟩⟩⟩⟩⟩⟩⟩⟩⟩⟩⟩⟩⟩⟩⟩⟩
theorem lw_p48 : lw_okq (⟨"WeighRecorderModel", "onChip", "(I)I"⟩, 20) := ⟨⟨by decide +kernel, by decide +kernel⟩, List.mem_of_getElem? (i := 703) (by decide +kernel), List.mem_of_getElem? (i := 932) (by decide +kernel), List.mem_of_getElem? (i := 933) (by decide +kernel)⟩
theorem lw_p49 : lw_okq (⟨"WeighRecorderModel", "sayNumber", "(J)V"⟩, 20) := ⟨⟨by decide +kernel, by decide +kernel⟩, List.mem_of_getElem? (i := 703) (by decide +kernel), List.mem_of_getElem? (i := 940) (by decide +kernel), List.mem_of_getElem? (i := 941) (by decide +kernel)⟩
theorem lw_p50 : lw_okq (⟨"WeighRecorderModel", "say", "(I)V"⟩, 20) := ⟨⟨by decide +kernel, by decide +kernel⟩, List.mem_of_getElem? (i := 703) (by decide +kernel), List.mem_of_getElem? (i := 944) (by decide +kernel), List.mem_of_getElem? (i := 945) (by decide +kernel)⟩
theorem lw_p51 : lw_okq (⟨"WeighRecorderModel", "latest", "(I)I"⟩, 20) := ⟨⟨by decide +kernel, by decide +kernel⟩, List.mem_of_getElem? (i := 703) (by decide +kernel), List.mem_of_getElem? (i := 967) (by decide +kernel), List.mem_of_getElem? (i := 968) (by decide +kernel)⟩
theorem lw_p52 : lw_okq (⟨"WeighRecorderModel", "liveCount", "()I"⟩, 20) := ⟨⟨by decide +kernel, by decide +kernel⟩, List.mem_of_getElem? (i := 703) (by decide +kernel), List.mem_of_getElem? (i := 991) (by decide +kernel), List.mem_of_getElem? (i := 992) (by decide +kernel)⟩
theorem lw_p53 : lw_okq (⟨"WeighRecorderModel", "freePages", "()I"⟩, 20) := ⟨⟨by decide +kernel, by decide +kernel⟩, List.mem_of_getElem? (i := 703) (by decide +kernel), List.mem_of_getElem? (i := 995) (by decide +kernel), List.mem_of_getElem? (i := 996) (by decide +kernel)⟩
def lw_privs_4 : List (MethodName × Nat) := [(⟨"WeighRecorderModel", "onChip", "(I)I"⟩, 20), (⟨"WeighRecorderModel", "sayNumber", "(J)V"⟩, 20), (⟨"WeighRecorderModel", "say", "(I)V"⟩, 20), (⟨"WeighRecorderModel", "latest", "(I)I"⟩, 20), (⟨"WeighRecorderModel", "liveCount", "()I"⟩, 20), (⟨"WeighRecorderModel", "freePages", "()I"⟩, 20)]
theorem lw_r4 : ∀ q ∈ lw_privs_4, lw_okq q := List.forall_mem_cons.mpr ⟨lw_p48, List.forall_mem_cons.mpr ⟨lw_p49, List.forall_mem_cons.mpr ⟨lw_p50, List.forall_mem_cons.mpr ⟨lw_p51, List.forall_mem_cons.mpr ⟨lw_p52, List.forall_mem_cons.mpr ⟨lw_p53, fun _ h => absurd h List.not_mem_nil⟩⟩⟩⟩⟩⟩
def lw_privs : List (MethodName × Nat) := lw_privs_1 ++ (lw_privs_2 ++ (lw_privs_3 ++ (lw_privs_4)))
def lw_tbl : List Cond := k2_sels lw_privs ++ tables_1
theorem lw_privs_ok : ∀ q ∈ lw_privs, lw_okq q := by
  show ∀ q ∈ lw_privs_1 ++ (lw_privs_2 ++ (lw_privs_3 ++ (lw_privs_4))), lw_okq q
  exact List.forall_mem_append.mpr ⟨lw_r1, List.forall_mem_append.mpr ⟨lw_r2, List.forall_mem_append.mpr ⟨lw_r3, lw_r4⟩⟩⟩
end
section
def R_C : String := "WeighRecorder$Chip"
def F_C : u_T := fun k => match k with
  | 0 => ("WeighRecorder$Chip", "words", "[I", true)
  | 1 => ("WeighRecorder$Chip", "wear", "[I", true)
  | 2 => ("WeighRecorder$Chip", "failed", "[Z", true)
  | 3 => ("WeighRecorder$Chip", "powered", "Z", false)
  | _ => ("WeighRecorder$Chip", "stepsToCut", "I", false)
def t_C : Nat → FieldType := fun k => match k with
  | 0 => .array .int
  | 1 => .array .int
  | 2 => .array .boolean
  | 3 => .boolean
  | _ => .int
theorem nm_C : ∀ a, a < 5 → ∀ b, b < 5 → a ≠ b → (F_C a).2.1 ≠ (F_C b).2.1 := by decide +kernel
theorem ok_C : ∀ k, k < 5 → parseFieldDescriptor (F_C k).2.2.1 = some (t_C k) := by decide +kernel
def R_N : String := "WeighRecorder$Line"
def F_N : u_T := fun k => match k with
  | 0 => ("WeighRecorder$Line", "bytes", "[B", true)
  | _ => ("WeighRecorder$Line", "used", "I", false)
def t_N : Nat → FieldType := fun k => match k with
  | 0 => .array .byte
  | _ => .int
theorem nm_N : ∀ a, a < 2 → ∀ b, b < 2 → a ≠ b → (F_N a).2.1 ≠ (F_N b).2.1 := by decide +kernel
theorem ok_N : ∀ k, k < 2 → parseFieldDescriptor (F_N k).2.2.1 = some (t_N k) := by decide +kernel
def R_G : String := "WeighRecorder$Log"
def F_G : u_T := fun k => match k with
  | 0 => ("WeighRecorder$Log", "words", "[I", true)
  | 1 => ("WeighRecorder$Log", "recordOfTicket", "[I", true)
  | 2 => ("WeighRecorder$Log", "voidedBy", "[I", true)
  | 3 => ("WeighRecorder$Log", "records", "I", false)
  | _ => ("WeighRecorder$Log", "tickets", "I", false)
def t_G : Nat → FieldType := fun k => match k with
  | 0 => .array .int
  | 1 => .array .int
  | 2 => .array .int
  | 3 => .int
  | _ => .int
theorem nm_G : ∀ a, a < 5 → ∀ b, b < 5 → a ≠ b → (F_G a).2.1 ≠ (F_G b).2.1 := by decide +kernel
theorem ok_G : ∀ k, k < 5 → parseFieldDescriptor (F_G k).2.2.1 = some (t_G k) := by decide +kernel
def R_S : String := "WeighRecorder$Store"
def F_S : u_T := fun k => match k with
  | 0 => ("WeighRecorder$Store", "chip", "LWeighRecorder$Chip;", true)
  | 1 => ("WeighRecorder$Store", "livePages", "[I", true)
  | 2 => ("WeighRecorder$Store", "row", "[I", true)
  | 3 => ("WeighRecorder$Store", "cursor", "I", false)
  | 4 => ("WeighRecorder$Store", "serial", "I", false)
  | 5 => ("WeighRecorder$Store", "durable", "I", false)
  | _ => ("WeighRecorder$Store", "wornOut", "Z", false)
def t_S : Nat → FieldType := fun k => match k with
  | 0 => .object "WeighRecorder$Chip"
  | 1 => .array .int
  | 2 => .array .int
  | 3 => .int
  | 4 => .int
  | 5 => .int
  | _ => .boolean
theorem nm_S : ∀ a, a < 7 → ∀ b, b < 7 → a ≠ b → (F_S a).2.1 ≠ (F_S b).2.1 := by decide +kernel
theorem ok_S : ∀ k, k < 7 → parseFieldDescriptor (F_S k).2.2.1 = some (t_S k) := by decide +kernel
def R_R : String := "WeighRecorder"
def F_R : u_T := fun k => match k with
  | 0 => ("WeighRecorder", "store", "LWeighRecorder$Store;", true)
  | 1 => ("WeighRecorder", "chip", "LWeighRecorder$Chip;", true)
  | 2 => ("WeighRecorder", "log", "LWeighRecorder$Log;", true)
  | 3 => ("WeighRecorder", "line", "LWeighRecorder$Line;", true)
  | 4 => ("WeighRecorder", "active", "[Z", true)
  | 5 => ("WeighRecorder", "readings", "I", false)
  | _ => ("WeighRecorder", "readSteps", "I", false)
def t_R : Nat → FieldType := fun k => match k with
  | 0 => .object "WeighRecorder$Store"
  | 1 => .object "WeighRecorder$Chip"
  | 2 => .object "WeighRecorder$Log"
  | 3 => .object "WeighRecorder$Line"
  | 4 => .array .boolean
  | 5 => .int
  | _ => .int
theorem nm_R : ∀ a, a < 7 → ∀ b, b < 7 → a ≠ b → (F_R a).2.1 ≠ (F_R b).2.1 := by decide +kernel
theorem ok_R : ∀ k, k < 7 → parseFieldDescriptor (F_R k).2.2.1 = some (t_R k) := by decide +kernel
def R_M : String := "WeighRecorderModel"
def F_M : u_T := fun k => match k with
  | 0 => ("WeighRecorderModel", "thrown", "I", false)
  | 1 => ("WeighRecorderModel", "chip", "[I", true)
  | 2 => ("WeighRecorderModel", "wear", "[I", true)
  | 3 => ("WeighRecorderModel", "failed", "[Z", true)
  | 4 => ("WeighRecorderModel", "active", "[Z", true)
  | 5 => ("WeighRecorderModel", "on", "Z", false)
  | 6 => ("WeighRecorderModel", "cut", "I", false)
  | 7 => ("WeighRecorderModel", "records", "I", false)
  | 8 => ("WeighRecorderModel", "log", "[I", true)
  | 9 => ("WeighRecorderModel", "live", "[I", true)
  | 10 => ("WeighRecorderModel", "had", "[I", true)
  | 11 => ("WeighRecorderModel", "serial", "I", false)
  | 12 => ("WeighRecorderModel", "cursor", "I", false)
  | 13 => ("WeighRecorderModel", "readings", "I", false)
  | 14 => ("WeighRecorderModel", "weight", "I", false)
  | 15 => ("WeighRecorderModel", "worn", "Z", false)
  | 16 => ("WeighRecorderModel", "page", "[I", true)
  | 17 => ("WeighRecorderModel", "place", "I", false)
  | 18 => ("WeighRecorderModel", "sought", "I", false)
  | _ => ("WeighRecorderModel", "found", "I", false)
def t_M : Nat → FieldType := fun k => match k with
  | 0 => .int
  | 1 => .array .int
  | 2 => .array .int
  | 3 => .array .boolean
  | 4 => .array .boolean
  | 5 => .boolean
  | 6 => .int
  | 7 => .int
  | 8 => .array .int
  | 9 => .array .int
  | 10 => .array .int
  | 11 => .int
  | 12 => .int
  | 13 => .int
  | 14 => .int
  | 15 => .boolean
  | 16 => .array .int
  | 17 => .int
  | 18 => .int
  | _ => .int
theorem nm_M : ∀ a, a < 20 → ∀ b, b < 20 → a ≠ b → (F_M a).2.1 ≠ (F_M b).2.1 := by decide +kernel
theorem ok_M : ∀ k, k < 20 → parseFieldDescriptor (F_M k).2.2.1 = some (t_M k) := by decide +kernel
def R_L : String := "WeighRecorderLaw"
abbrev vwCl : List vw_C := [(R_C, F_C, 5), (R_N, F_N, 2), (R_G, F_G, 5), (R_S, F_S, 7), (R_R, F_R, 7), (R_M, F_M, 20)]
/-- the tables' good words -/
def gw : List Cond := lw_tbl.filter goodWord
theorem gw_in {w : Cond} (h : w ∈ lw_tbl) (g : goodWord w = true) : w ∈ gw := List.mem_filter.mpr ⟨h, g⟩
theorem gw_good {w : Cond} (h : w ∈ gw) : goodWord w = true := (List.mem_filter.mp h).2
theorem gw_of {w : Cond} (h : w ∈ gw) : w ∈ lw_tbl := (List.mem_filter.mp h).1
theorem tb_1 {w : Cond} (h : w ∈ tables_1_1) : w ∈ lw_tbl := List.mem_append_right _ (show w ∈ tables_1 from List.mem_append_left _ h)
theorem tb_2 {w : Cond} (h : w ∈ tables_1_2) : w ∈ lw_tbl := List.mem_append_right _ (show w ∈ tables_1 from List.mem_append_right _ (List.mem_append_left _ h))
theorem tb_3 {w : Cond} (h : w ∈ tables_1_3) : w ∈ lw_tbl := List.mem_append_right _ (show w ∈ tables_1 from List.mem_append_right _ (List.mem_append_right _ (List.mem_append_left _ h)))
theorem tb_4 {w : Cond} (h : w ∈ tables_1_4) : w ∈ lw_tbl := List.mem_append_right _ (show w ∈ tables_1 from List.mem_append_right _ (List.mem_append_right _ (List.mem_append_right _ (List.mem_append_left _ h))))
theorem tb_5 {w : Cond} (h : w ∈ tables_1_5) : w ∈ lw_tbl := List.mem_append_right _ (show w ∈ tables_1 from List.mem_append_right _ (List.mem_append_right _ (List.mem_append_right _ (List.mem_append_right _ (h)))))
theorem tb_s {q : MethodName × Nat} (h : q ∈ lw_privs) : Cond.selects q.1.cls q.1 q.1 ∈ lw_tbl := List.mem_append_left _ (List.mem_map.mpr ⟨q, h, rfl⟩)
theorem in_C : ∀ w ∈ u_ws R_C F_C 5, w ∈ gw := by
  intro w h
  obtain ⟨k, hk, rfl⟩ := List.mem_map.mp h
  have hk := List.mem_range.mp hk
  rcases (show k = 0 ∨ k = 1 ∨ k = 2 ∨ k = 3 ∨ k = 4 by omega) with rfl | rfl | rfl | rfl | rfl
  · exact gw_in (tb_1 (List.mem_of_getElem? (i := 39) rfl)) (by decide +kernel)
  · exact gw_in (tb_1 (List.mem_of_getElem? (i := 41) rfl)) (by decide +kernel)
  · exact gw_in (tb_1 (List.mem_of_getElem? (i := 43) rfl)) (by decide +kernel)
  · exact gw_in (tb_1 (List.mem_of_getElem? (i := 45) rfl)) (by decide +kernel)
  · exact gw_in (tb_1 (List.mem_of_getElem? (i := 47) rfl)) (by decide +kernel)
theorem in_N : ∀ w ∈ u_ws R_N F_N 2, w ∈ gw := by
  intro w h
  obtain ⟨k, hk, rfl⟩ := List.mem_map.mp h
  have hk := List.mem_range.mp hk
  rcases (show k = 0 ∨ k = 1 by omega) with rfl | rfl
  · exact gw_in (tb_1 (List.mem_of_getElem? (i := 108) rfl)) (by decide +kernel)
  · exact gw_in (tb_1 (List.mem_of_getElem? (i := 110) rfl)) (by decide +kernel)
theorem in_G : ∀ w ∈ u_ws R_G F_G 5, w ∈ gw := by
  intro w h
  obtain ⟨k, hk, rfl⟩ := List.mem_map.mp h
  have hk := List.mem_range.mp hk
  rcases (show k = 0 ∨ k = 1 ∨ k = 2 ∨ k = 3 ∨ k = 4 by omega) with rfl | rfl | rfl | rfl | rfl
  · exact gw_in (tb_1 (List.mem_of_getElem? (i := 89) rfl)) (by decide +kernel)
  · exact gw_in (tb_1 (List.mem_of_getElem? (i := 91) rfl)) (by decide +kernel)
  · exact gw_in (tb_1 (List.mem_of_getElem? (i := 93) rfl)) (by decide +kernel)
  · exact gw_in (tb_1 (List.mem_of_getElem? (i := 95) rfl)) (by decide +kernel)
  · exact gw_in (tb_1 (List.mem_of_getElem? (i := 97) rfl)) (by decide +kernel)
theorem in_S : ∀ w ∈ u_ws R_S F_S 7, w ∈ gw := by
  intro w h
  obtain ⟨k, hk, rfl⟩ := List.mem_map.mp h
  have hk := List.mem_range.mp hk
  rcases (show k = 0 ∨ k = 1 ∨ k = 2 ∨ k = 3 ∨ k = 4 ∨ k = 5 ∨ k = 6 by omega) with rfl | rfl | rfl | rfl | rfl | rfl | rfl
  · exact gw_in (tb_1 (List.mem_of_getElem? (i := 59) rfl)) (by decide +kernel)
  · exact gw_in (tb_1 (List.mem_of_getElem? (i := 61) rfl)) (by decide +kernel)
  · exact gw_in (tb_1 (List.mem_of_getElem? (i := 63) rfl)) (by decide +kernel)
  · exact gw_in (tb_1 (List.mem_of_getElem? (i := 65) rfl)) (by decide +kernel)
  · exact gw_in (tb_1 (List.mem_of_getElem? (i := 67) rfl)) (by decide +kernel)
  · exact gw_in (tb_1 (List.mem_of_getElem? (i := 69) rfl)) (by decide +kernel)
  · exact gw_in (tb_1 (List.mem_of_getElem? (i := 71) rfl)) (by decide +kernel)
theorem in_R : ∀ w ∈ u_ws R_R F_R 7, w ∈ gw := by
  intro w h
  obtain ⟨k, hk, rfl⟩ := List.mem_map.mp h
  have hk := List.mem_range.mp hk
  rcases (show k = 0 ∨ k = 1 ∨ k = 2 ∨ k = 3 ∨ k = 4 ∨ k = 5 ∨ k = 6 by omega) with rfl | rfl | rfl | rfl | rfl | rfl | rfl
  · exact gw_in (tb_1 (List.mem_of_getElem? (i := 121) rfl)) (by decide +kernel)
  · exact gw_in (tb_1 (List.mem_of_getElem? (i := 123) rfl)) (by decide +kernel)
  · exact gw_in (tb_1 (List.mem_of_getElem? (i := 125) rfl)) (by decide +kernel)
  · exact gw_in (tb_1 (List.mem_of_getElem? (i := 127) rfl)) (by decide +kernel)
  · exact gw_in (tb_1 (List.mem_of_getElem? (i := 129) rfl)) (by decide +kernel)
  · exact gw_in (tb_1 (List.mem_of_getElem? (i := 131) rfl)) (by decide +kernel)
  · exact gw_in (tb_1 (List.mem_of_getElem? (i := 133) rfl)) (by decide +kernel)
theorem in_M : ∀ w ∈ u_ws R_M F_M 20, w ∈ gw := by
  intro w h
  obtain ⟨k, hk, rfl⟩ := List.mem_map.mp h
  have hk := List.mem_range.mp hk
  rcases (show k = 0 ∨ k = 1 ∨ k = 2 ∨ k = 3 ∨ k = 4 ∨ k = 5 ∨ k = 6 ∨ k = 7 ∨ k = 8 ∨ k = 9 ∨ k = 10 ∨ k = 11 ∨ k = 12 ∨ k = 13 ∨ k = 14 ∨ k = 15 ∨ k = 16 ∨ k = 17 ∨ k = 18 ∨ k = 19 by omega) with rfl | rfl | rfl | rfl | rfl | rfl | rfl | rfl | rfl | rfl | rfl | rfl | rfl | rfl | rfl | rfl | rfl | rfl | rfl | rfl
  · exact gw_in (tb_4 (List.mem_of_getElem? (i := 12) rfl)) (by decide +kernel)
  · exact gw_in (tb_4 (List.mem_of_getElem? (i := 14) rfl)) (by decide +kernel)
  · exact gw_in (tb_4 (List.mem_of_getElem? (i := 16) rfl)) (by decide +kernel)
  · exact gw_in (tb_4 (List.mem_of_getElem? (i := 18) rfl)) (by decide +kernel)
  · exact gw_in (tb_4 (List.mem_of_getElem? (i := 20) rfl)) (by decide +kernel)
  · exact gw_in (tb_4 (List.mem_of_getElem? (i := 22) rfl)) (by decide +kernel)
  · exact gw_in (tb_4 (List.mem_of_getElem? (i := 24) rfl)) (by decide +kernel)
  · exact gw_in (tb_4 (List.mem_of_getElem? (i := 26) rfl)) (by decide +kernel)
  · exact gw_in (tb_4 (List.mem_of_getElem? (i := 28) rfl)) (by decide +kernel)
  · exact gw_in (tb_4 (List.mem_of_getElem? (i := 30) rfl)) (by decide +kernel)
  · exact gw_in (tb_4 (List.mem_of_getElem? (i := 32) rfl)) (by decide +kernel)
  · exact gw_in (tb_4 (List.mem_of_getElem? (i := 34) rfl)) (by decide +kernel)
  · exact gw_in (tb_4 (List.mem_of_getElem? (i := 36) rfl)) (by decide +kernel)
  · exact gw_in (tb_4 (List.mem_of_getElem? (i := 38) rfl)) (by decide +kernel)
  · exact gw_in (tb_4 (List.mem_of_getElem? (i := 40) rfl)) (by decide +kernel)
  · exact gw_in (tb_4 (List.mem_of_getElem? (i := 42) rfl)) (by decide +kernel)
  · exact gw_in (tb_4 (List.mem_of_getElem? (i := 44) rfl)) (by decide +kernel)
  · exact gw_in (tb_4 (List.mem_of_getElem? (i := 46) rfl)) (by decide +kernel)
  · exact gw_in (tb_4 (List.mem_of_getElem? (i := 48) rfl)) (by decide +kernel)
  · exact gw_in (tb_4 (List.mem_of_getElem? (i := 50) rfl)) (by decide +kernel)
theorem g_c {M y : Cond} (hy : y ∈ gw) : GoodIn (M :: gw) (y :: gw) := fun w h => (List.mem_cons.mp h).elim (fun e => by rw [e]; exact ⟨List.mem_cons_of_mem _ hy, good_of_word (gw_good hy)⟩) (fun h => ⟨List.mem_cons_of_mem _ h, good_of_word (gw_good h)⟩)
theorem g_V {M cy : Cond} {own C : String} {idx : Nat} {y : MethodName} (h1 : .methodLink own idx y ∈ gw) (h2 : .instanceMethod y ∈ gw) (h3 : .selects C y y ∈ gw) (h4 : .initialized C ∈ gw) (h5 : cy ∈ gw) : GoodIn (M :: gw) (wsV own idx C y (cy :: gw)) := by
  intro w h
  have k : ∀ {z : Cond}, z ∈ gw → z ∈ M :: gw ∧ ((z.onTables && z.keeps) = true ∨ ∃ ty, z = .arrayClass ty) := fun hz => ⟨List.mem_cons_of_mem _ hz, good_of_word (gw_good hz)⟩
  rcases List.mem_append.mp h with h | h
  · simp only [List.mem_cons, List.not_mem_nil, or_false] at h
    rcases h with rfl | rfl | rfl | rfl
    · exact k h1
    · exact k h2
    · exact k h3
    · exact k h4
  · exact g_c h5 w h
theorem g_S {M cy : Cond} {own : String} {idx : Nat} {y : MethodName} (h1 : .methodLink own idx y ∈ gw) (h2 : .static y ∈ gw) (h4 : .initialized own ∈ gw) (h5 : cy ∈ gw) : GoodIn (M :: gw) (wsS own idx y (cy :: gw)) := by
  intro w h
  have k : ∀ {z : Cond}, z ∈ gw → z ∈ M :: gw ∧ ((z.onTables && z.keeps) = true ∨ ∃ ty, z = .arrayClass ty) := fun hz => ⟨List.mem_cons_of_mem _ hz, good_of_word (gw_good hz)⟩
  rcases List.mem_append.mp h with h | h
  · simp only [List.mem_cons, List.not_mem_nil, or_false] at h
    rcases h with rfl | rfl | rfl
    · exact k h1
    · exact k h2
    · exact k h4
  · exact g_c h5 w h
end
section
/-! numbers at branches, values on the stack, what a call asks of a world -/
theorem cd_eq_t {a b : Nat} (ha : a < 2 ^ 31) (hb : b < 2 ^ 31) (h : nI a = nI b) : a = b := (nI_eq ha hb).mp h
theorem cd_eq_f {a b : Nat} (_ : a < 2 ^ 31) (_ : b < 2 ^ 31) (h : ¬ nI a = nI b) : ¬ a = b := fun q => h (by rw [q])
theorem cd_ne_t {a b : Nat} (ha : a < 2 ^ 31) (hb : b < 2 ^ 31) (h : ¬ nI a = nI b) : ¬ a = b := cd_eq_f ha hb h
theorem cd_ne_f {a b : Nat} (ha : a < 2 ^ 31) (hb : b < 2 ^ 31) (h : nI a = nI b) : a = b := cd_eq_t ha hb h
theorem cd_lt_t {a b : Nat} (ha : a < 2 ^ 31) (hb : b < 2 ^ 31) (h : nI a < nI b) : a < b := (nI_ltI ha hb).mp h
theorem cd_lt_f {a b : Nat} (ha : a < 2 ^ 31) (hb : b < 2 ^ 31) (h : ¬ nI a < nI b) : ¬ a < b := fun q => h ((nI_ltI ha hb).mpr q)
theorem cd_ge_t {a b : Nat} (ha : a < 2 ^ 31) (hb : b < 2 ^ 31) (h : nI b ≤ nI a) : b ≤ a := (nI_leI hb ha).mp h
theorem cd_ge_f {a b : Nat} (ha : a < 2 ^ 31) (hb : b < 2 ^ 31) (h : ¬ nI b ≤ nI a) : ¬ b ≤ a := fun q => h ((nI_leI hb ha).mpr q)
theorem cd_gt_t {a b : Nat} (ha : a < 2 ^ 31) (hb : b < 2 ^ 31) (h : nI b < nI a) : b < a := (nI_ltI hb ha).mp h
theorem cd_gt_f {a b : Nat} (ha : a < 2 ^ 31) (hb : b < 2 ^ 31) (h : ¬ nI b < nI a) : ¬ b < a := fun q => h ((nI_ltI hb ha).mpr q)
theorem cd_le_t {a b : Nat} (ha : a < 2 ^ 31) (hb : b < 2 ^ 31) (h : nI a ≤ nI b) : a ≤ b := (nI_leI ha hb).mp h
theorem cd_le_f {a b : Nat} (ha : a < 2 ^ 31) (hb : b < 2 ^ 31) (h : ¬ nI a ≤ nI b) : ¬ a ≤ b := fun q => h ((nI_leI ha hb).mpr q)
theorem cz_eq_t {a : Nat} (ha : a < 2 ^ 31) (h : nI a = 0) : a = 0 := cd_eq_t ha (by decide) (by rw [nI_0]; exact h)
theorem cz_eq_f {a : Nat} (_ : a < 2 ^ 31) (h : ¬ nI a = 0) : ¬ a = 0 := fun q => h (by rw [q, nI_0])
theorem cz_ne_t {a : Nat} (ha : a < 2 ^ 31) (h : ¬ nI a = 0) : ¬ a = 0 := cz_eq_f ha h
theorem cz_ne_f {a : Nat} (ha : a < 2 ^ 31) (h : nI a = 0) : a = 0 := cz_eq_t ha h
theorem cz_lt_t {a : Nat} (ha : a < 2 ^ 31) (h : nI a < 0) : False := nI_pos ha h
theorem cz_lt_f {a : Nat} (_ : a < 2 ^ 31) (_ : ¬ nI a < 0) : True := trivial
theorem cz_ge_t {a : Nat} (_ : a < 2 ^ 31) (_ : 0 ≤ nI a) : True := trivial
theorem cz_ge_f {a : Nat} (ha : a < 2 ^ 31) (h : ¬ 0 ≤ nI a) : False := h (nI_pos' ha)
theorem cz_gt_t {a : Nat} (ha : a < 2 ^ 31) (h : 0 < nI a) : 0 < a := cd_lt_t (by decide) ha (by rw [nI_0]; exact h)
theorem cz_gt_f {a : Nat} (ha : a < 2 ^ 31) (h : ¬ 0 < nI a) : a = 0 := by
  have := cd_lt_f (a := 0) (by decide) ha (by rw [nI_0]; exact h)
  omega
theorem cz_le_t {a : Nat} (ha : a < 2 ^ 31) (h : nI a ≤ 0) : a = 0 := by
  have := cd_le_t (b := 0) ha (by decide) (by rw [nI_0]; exact h)
  omega
theorem cz_le_f {a : Nat} (ha : a < 2 ^ 31) (h : ¬ nI a ≤ 0) : 0 < a := by
  have := cd_le_f (b := 0) ha (by decide) (by rw [nI_0]; exact h)
  omega
section TP
variable {p : Program} {l : Launch} {e : Env} {R : Room} {s : State} {m : MethodId} {args : Array Value} {below : List Frame} {meth : Method} {c : Code} {H : Heap} {locs : List Loc} {cells slots : Nat} {Q : State → Prop} {pc : Nat} {ls : Array Slot} {rest : List Value}
theorem tp_i {x y : Int32} (h : x = y) (k : W p l e R s m args below meth c H locs cells slots Q (F0 m pc ls (.int y :: rest))) : W p l e R s m args below meth c H locs cells slots Q (F0 m pc ls (.int x :: rest)) := h ▸ k
theorem tp_l {x y : Int64} (h : x = y) (k : W p l e R s m args below meth c H locs cells slots Q (F0 m pc ls (.long y :: rest))) : W p l e R s m args below meth c H locs cells slots Q (F0 m pc ls (.long x :: rest)) := h ▸ k
end TP
/-- a reader's start: the world and the tables -/
def xR (D : va_G) (cl : List vw_C) (tys : List (ClassId × FieldType)) (ws : va_W) (av : List Value) : Array Value → State → Prop := va_Pc av (fun U => va_P D cl ws U.heap ∧ va_K D cl tys U)
/-- a writer's start: and the cells are apart -/
def xP (D : va_G) (cl : List vw_C) (tys : List (ClassId × FieldType)) (ws : va_W) (sz : Nat) (av : List Value) : Array Value → State → Prop := va_Pc av (fun U => U.heap.size = sz ∧ va_P D cl ws U.heap ∧ va_K D cl tys U ∧ va_D (fun _ => True) ws)
/-- a writer's end -/
def xB (D : va_G) (cl : List vw_C) (tys : List (ClassId × FieldType)) (A : Nat → Prop) (ws : va_W) (t : State) : Prop := va_P D cl ws t.heap ∧ va_K D cl tys t ∧ va_D A ws
theorem xR_blind {D : va_G} {cl : List vw_C} {tys : List (ClassId × FieldType)} {ws : va_W} {av : List Value} : FrameBlind (xR D cl tys ws av) := fun a U g mk q => by
  obtain ⟨q0, qP, qK⟩ := q
  exact ⟨q0, qP, va_K.moved (u := U) (U := U.calling g mk a) (Vm.Alike.refl U.vm) qK⟩
theorem xP_blind {D : va_G} {cl : List vw_C} {tys : List (ClassId × FieldType)} {ws : va_W} {sz : Nat} {av : List Value} : FrameBlind (xP D cl tys ws sz av) := fun a U g mk q => by
  obtain ⟨q0, q1, qP, qK, qD⟩ := q
  exact ⟨q0, q1, qP, va_K.moved (u := U) (U := U.calling g mk a) (Vm.Alike.refl U.vm) qK, qD⟩
theorem xR_v {s : State} {H : Heap} {D : va_G} {cl : List vw_C} {tys : List (ClassId × FieldType)} {ws : va_W} {As : List Value} {b ci : Nat} {fs : List Value} {q : vw_C} (hP : va_P D cl ws H) (hK : va_K D cl tys s) (k : Nat) (he : ws[k]? = some (b, .inr (ci, fs))) (hc : cl[ci]? = some q) : PreV s H q.1 b (xR D cl tys ws (.ref b :: As)) As :=
  ⟨xR_blind, va_recv hK hP hc he, fun U hU hW => ⟨rfl, by rw [hU]; exact hP, va_K.moved hW.alike hK⟩⟩
theorem xR_s {s : State} {H : Heap} {D : va_G} {cl : List vw_C} {tys : List (ClassId × FieldType)} {ws : va_W} {As : List Value} (hP : va_P D cl ws H) (hK : va_K D cl tys s) : PreS s H (xR D cl tys ws As) As :=
  ⟨xR_blind, fun U hU hW => ⟨rfl, by rw [hU]; exact hP, va_K.moved hW.alike hK⟩⟩
theorem xP_v {s : State} {H : Heap} {D : va_G} {cl : List vw_C} {tys : List (ClassId × FieldType)} {A : Nat → Prop} {ws : va_W} {As : List Value} {b ci : Nat} {fs : List Value} {q : vw_C} (hP : va_P D cl ws H) (hK : va_K D cl tys s) (hD : va_D A ws) (k : Nat) (he : ws[k]? = some (b, .inr (ci, fs))) (hc : cl[ci]? = some q) : PreV s H q.1 b (xP D cl tys ws H.size (.ref b :: As)) As :=
  ⟨xP_blind, va_recv hK hP hc he, fun U hU hW => ⟨rfl, by rw [hU], by rw [hU]; exact hP, va_K.moved hW.alike hK, hD.weaken (fun _ _ _ _ => trivial)⟩⟩
theorem xP_s {s : State} {H : Heap} {D : va_G} {cl : List vw_C} {tys : List (ClassId × FieldType)} {A : Nat → Prop} {ws : va_W} {As : List Value} (hP : va_P D cl ws H) (hK : va_K D cl tys s) (hD : va_D A ws) : PreS s H (xP D cl tys ws H.size As) As :=
  ⟨xP_blind, fun U hU hW => ⟨rfl, by rw [hU], by rw [hU]; exact hP, va_K.moved hW.alike hK, hD.weaken (fun _ _ _ _ => trivial)⟩⟩
/-- what a method of n cells may change -/
def xA (n : Nat) (ad : Nat → Nat) (sz : Nat) : Nat → Prop := fun q => (∃ k, k < n ∧ q = ad k) ∨ sz ≤ q
theorem xA_up {n : Nat} {ad : Nat → Nat} {a b : Nat} (h : a ≤ b) : ∀ q, xA n ad b q → xA n ad a q := fun q hq => hq.elim Or.inl (fun z => Or.inr (Nat.le_trans h z))
end
section
/-- the recorder's fifteen cells -/
def xw (ad cd : Nat → Nat) (w wr fl : Nat → Int32) (pw sc : Int32) (lw rot vb : Nat → Int32) (rec tk : Int32) (live row : Nat → Int32) (cur ser dur wo : Int32) (bts : Nat → Int32) (us : Int32) (act : Nat → Int32) (rd rs : Int32) : va_W := [(ad 0, .inr (4, [.ref (ad 1), .ref (ad 2), .ref (ad 3), .ref (ad 4), .ref (ad 5), .int rd, .int rs])), (ad 1, .inr (3, [.ref (ad 2), .ref (ad 6), .ref (ad 7), .int cur, .int ser, .int dur, .int wo])), (ad 2, .inr (0, [.ref (ad 8), .ref (ad 9), .ref (ad 10), .int pw, .int sc])), (ad 3, .inr (2, [.ref (ad 11), .ref (ad 12), .ref (ad 13), .int rec, .int tk])), (ad 4, .inr (1, [.ref (ad 14), .int us])), (ad 5, .inl (cd 5, 40, .inl act)), (ad 6, .inl (cd 6, 16, .inl live)), (ad 7, .inl (cd 7, 16, .inl row)), (ad 8, .inl (cd 8, 512, .inl w)), (ad 9, .inl (cd 9, 8, .inl wr)), (ad 10, .inl (cd 10, 8, .inl fl)), (ad 11, .inl (cd 11, 192, .inl lw)), (ad 12, .inl (cd 12, 48, .inl rot)), (ad 13, .inl (cd 13, 48, .inl vb)), (ad 14, .inl (cd 14, 32, .inl bts))]
def xt (cd : Nat → Nat) : List (ClassId × FieldType) := [(cd 5, .boolean), (cd 6, .int), (cd 7, .int), (cd 8, .int), (cd 9, .int), (cd 10, .boolean), (cd 11, .int), (cd 12, .int), (cd 13, .int), (cd 14, .byte)]
/-- the reference's nine cells -/
def mw_ (am cm : Nat → Nat) (th : Int32) (mw mwr mfl mact : Nat → Int32) (on cut mrec : Int32) (mlog mlive had : Nat → Int32) (mser mcur mrd mwt worn : Int32) (pg : Nat → Int32) (pla sou fou : Int32) : va_W := [(am 0, .inr (5, [.int th, .ref (am 1), .ref (am 2), .ref (am 3), .ref (am 4), .int on, .int cut, .int mrec, .ref (am 5), .ref (am 6), .ref (am 7), .int mser, .int mcur, .int mrd, .int mwt, .int worn, .ref (am 8), .int pla, .int sou, .int fou])), (am 1, .inl (cm 1, 512, .inl mw)), (am 2, .inl (cm 2, 8, .inl mwr)), (am 3, .inl (cm 3, 8, .inl mfl)), (am 4, .inl (cm 4, 40, .inl mact)), (am 5, .inl (cm 5, 192, .inl mlog)), (am 6, .inl (cm 6, 16, .inl mlive)), (am 7, .inl (cm 7, 16, .inl had)), (am 8, .inl (cm 8, 16, .inl pg))]
def mt (cm : Nat → Nat) : List (ClassId × FieldType) := [(cm 1, .int), (cm 2, .int), (cm 3, .boolean), (cm 4, .boolean), (cm 5, .int), (cm 6, .int), (cm 7, .int), (cm 8, .int)]
theorem xw_D {B : Nat → Prop} {ad cd : Nat → Nat} {sz : Nat} {w wr fl : Nat → Int32} {pw sc : Int32} {lw rot vb : Nat → Int32} {rec tk : Int32} {live row : Nat → Int32} {cur ser dur wo : Int32} {bts : Nat → Int32} {us : Int32} {act : Nat → Int32} {rd rs : Int32} (h : va_D B (xw ad cd w wr fl pw sc lw rot vb rec tk live row cur ser dur wo bts us act rd rs)) : va_D (xA 15 ad sz) (xw ad cd w wr fl pw sc lw rot vb rec tk live row cur ser dur wo bts us act rd rs) := by
  refine ⟨h.1, fun k q hk => ?_⟩
  have hl : k < 15 := (List.getElem?_eq_some_iff.mp hk).1
  rcases (show k = 0 ∨ k = 1 ∨ k = 2 ∨ k = 3 ∨ k = 4 ∨ k = 5 ∨ k = 6 ∨ k = 7 ∨ k = 8 ∨ k = 9 ∨ k = 10 ∨ k = 11 ∨ k = 12 ∨ k = 13 ∨ k = 14 by omega) with rfl | rfl | rfl | rfl | rfl | rfl | rfl | rfl | rfl | rfl | rfl | rfl | rfl | rfl | rfl <;> (cases hk; exact Or.inl ⟨_, hl, rfl⟩)
theorem xw_J {A : Nat → Prop} {B : Nat → Prop} {ad cd : Nat → Nat} {w wr fl : Nat → Int32} {pw sc : Int32} {lw rot vb : Nat → Int32} {rec tk : Int32} {live row : Nat → Int32} {cur ser dur wo : Int32} {bts : Nat → Int32} {us : Int32} {act : Nat → Int32} {rd rs : Int32} (h : va_D B (xw ad cd w wr fl pw sc lw rot vb rec tk live row cur ser dur wo bts us act rd rs)) (hA : ∀ k, k < 15 → A (ad k)) : va_D A (xw ad cd w wr fl pw sc lw rot vb rec tk live row cur ser dur wo bts us act rd rs) := by
  refine ⟨h.1, fun k q hk => ?_⟩
  have hl : k < 15 := (List.getElem?_eq_some_iff.mp hk).1
  rcases (show k = 0 ∨ k = 1 ∨ k = 2 ∨ k = 3 ∨ k = 4 ∨ k = 5 ∨ k = 6 ∨ k = 7 ∨ k = 8 ∨ k = 9 ∨ k = 10 ∨ k = 11 ∨ k = 12 ∨ k = 13 ∨ k = 14 by omega) with rfl | rfl | rfl | rfl | rfl | rfl | rfl | rfl | rfl | rfl | rfl | rfl | rfl | rfl | rfl <;> (cases hk; exact hA _ hl)
theorem mw_D {B : Nat → Prop} {am cm : Nat → Nat} {sz : Nat} {th : Int32} {mw mwr mfl mact : Nat → Int32} {on cut mrec : Int32} {mlog mlive had : Nat → Int32} {mser mcur mrd mwt worn : Int32} {pg : Nat → Int32} {pla sou fou : Int32} (h : va_D B (mw_ am cm th mw mwr mfl mact on cut mrec mlog mlive had mser mcur mrd mwt worn pg pla sou fou)) : va_D (xA 9 am sz) (mw_ am cm th mw mwr mfl mact on cut mrec mlog mlive had mser mcur mrd mwt worn pg pla sou fou) := by
  refine ⟨h.1, fun k q hk => ?_⟩
  have hl : k < 9 := (List.getElem?_eq_some_iff.mp hk).1
  rcases (show k = 0 ∨ k = 1 ∨ k = 2 ∨ k = 3 ∨ k = 4 ∨ k = 5 ∨ k = 6 ∨ k = 7 ∨ k = 8 by omega) with rfl | rfl | rfl | rfl | rfl | rfl | rfl | rfl | rfl <;> (cases hk; exact Or.inl ⟨_, hl, rfl⟩)
theorem mw_J {A : Nat → Prop} {B : Nat → Prop} {am cm : Nat → Nat} {th : Int32} {mw mwr mfl mact : Nat → Int32} {on cut mrec : Int32} {mlog mlive had : Nat → Int32} {mser mcur mrd mwt worn : Int32} {pg : Nat → Int32} {pla sou fou : Int32} (h : va_D B (mw_ am cm th mw mwr mfl mact on cut mrec mlog mlive had mser mcur mrd mwt worn pg pla sou fou)) (hA : ∀ k, k < 9 → A (am k)) : va_D A (mw_ am cm th mw mwr mfl mact on cut mrec mlog mlive had mser mcur mrd mwt worn pg pla sou fou) := by
  refine ⟨h.1, fun k q hk => ?_⟩
  have hl : k < 9 := (List.getElem?_eq_some_iff.mp hk).1
  rcases (show k = 0 ∨ k = 1 ∨ k = 2 ∨ k = 3 ∨ k = 4 ∨ k = 5 ∨ k = 6 ∨ k = 7 ∨ k = 8 by omega) with rfl | rfl | rfl | rfl | rfl | rfl | rfl | rfl | rfl <;> (cases hk; exact hA _ hl)
/-- a free page -/
def fp (w : Nat → Int32) (p : Nat) : Prop := ∀ i, i < 16 → w (16 * p + i) = -1
theorem m1_ne {n : Nat} (h : n < 2 ^ 31) : nI n ≠ -1 := fun q => by
  have h1 : (nI n).toInt = (-1 : Int32).toInt := by rw [q]
  rw [nI_toInt h] at h1
  have h2 : (-1 : Int32).toInt = -1 := by decide
  omega
theorem upd_lt {f : Nat → Int32} {k : Nat} {v : Int32} (h : ∀ i, i < k → f i = v) : ∀ i, i < k + 1 → upd f k v i = v := fun i hi => by
  by_cases e : i = k
  · rw [e]; exact pk_us
  · rw [pk_un e]; exact h i (by omega)
theorem upd_all {f : Nat → Int32} {k n : Nat} {v : Int32} (h : ∀ i, i < n → f i = v) : ∀ i, i < n → upd f k v i = v := fun i hi => by
  by_cases e : i = k
  · rw [e]; exact pk_us
  · rw [pk_un e]; exact h i hi
theorem sw_in (x : Int32) (n : Nat) (hn : n < 2 ^ 31 := by decide) : (x.toInt < 0 ∨ (n : Int) < x.toInt) ∨ ∃ j : Nat, j ≤ n ∧ x = nI j := by
  by_cases h : x.toInt < 0 ∨ (n : Int) < x.toInt
  · exact Or.inl h
  · refine Or.inr ⟨x.toInt.toNat, by omega, Int32.toInt_inj.mp ?_⟩
    rw [nI_toInt (by omega)]
    omega
/-- what state(what) answers at the start -/
def stv (x : Int32) : Int32 := if x = nI 6 then -1 else if x = nI 7 then nI 32 else if x = nI 8 then nI 1 else if x.toInt < 0 ∨ 8 < x.toInt then -1 else nI 0
theorem stv_out {x : Int32} (h : x.toInt < 0 ∨ (8 : Int) < x.toInt) : stv x = -1 := by
  have e : ∀ j : Nat, j ≤ 8 → x ≠ nI j := fun j hj q => by
    rw [q, nI_toInt (by omega)] at h
    omega
  unfold stv
  rw [if_neg (e 6 (by decide)), if_neg (e 7 (by decide)), if_neg (e 8 (by decide)), if_pos h]
theorem not_tk {n : Int32} (z : (1 : Int32) ≤ n ∧ n ≤ nI 0) : False := by
  have h1 := Int32.le_iff_toInt_le.mp z.1
  have h2 := Int32.le_iff_toInt_le.mp z.2
  rw [nI_toInt (by decide)] at h2
  have h3 : (1 : Int32).toInt = 1 := by decide
  omega
theorem z_mx (x : Int32) : nI 0 < (if x < nI 1 then nI 1 else x) := by
  split
  · decide
  · next h =>
    have h1 := Int32.not_lt.mp h
    have h2 := Int32.le_iff_toInt_le.mp h1
    rw [Int32.lt_iff_toInt_lt]
    rw [nI_toInt (by decide)] at *
    omega
theorem mn_mx (t x : Int32) : (if nI 0 < t then nI 0 else t) < (if x < nI 1 then nI 1 else x) := by
  have h1 := Int32.lt_iff_toInt_lt.mp (z_mx x)
  rw [Int32.lt_iff_toInt_lt]
  rw [nI_toInt (by decide)] at h1
  split
  · rw [nI_toInt (by decide)]; exact h1
  · next h =>
    have h3 := Int32.le_iff_toInt_le.mp (Int32.not_lt.mp h)
    rw [nI_toInt (by decide)] at h3
    omega
end
section
/-! methods that throw: what they end in, how a caller passes it on, how it is caught -/
/-- one of Throwable's two statics, at the cell a: a reference or null -/
def tz1 (n d : String) (U : State) (H : Heap) (a : Nat) : Prop := ∃ (c : ClassId) (k : Class) (i : Nat) (f : Field) (cell : Cell) (v : Value), U.vm.findClass Bundle.tN = some c ∧ U.fieldFound? Bundle.tN n d = some (c, k, i, f) ∧ f.isStatic = true ∧ k.statics = some a ∧ H[a]? = some cell ∧ cell.vm.isStatics = true ∧ cell.cls = c ∧ f.slot < cell.slots.size ∧ k.staticTypes[f.slot]? = some f.type ∧ cell.slots[f.slot]? = some v ∧ v.isRef = true
def tz (U : State) (H : Heap) (a : Nat) : Prop := tz1 "UNASSIGNED_STACK" Bundle.steD U H a ∧ tz1 "SUPPRESSED_SENTINEL" Bundle.listD U H a
theorem tz1.moved {n d : String} {u U : State} {H H1 : Heap} {a : Nat} (hvm : u.vm.Alike U.vm) (hq : H1[a]? = H[a]?) (h : tz1 n d u H a) : tz1 n d U H1 a := by
  obtain ⟨c, k, i, f, cell, v, h1, h2, h3, h4, h5, h6, h7, h8, h9, h10, h11⟩ := h
  obtain ⟨k', hi', he⟩ := State.fieldFound?_setVm hvm h2
  exact ⟨c, k', i, f, cell, v, by rw [hvm.findClass]; exact h1, hi', h3, by rw [he]; exact h4, by rw [hq]; exact h5, h6, h7, h8, by rw [he]; exact h9, h10, h11⟩
theorem tz.moved {u U : State} {H H1 : Heap} {a : Nat} (hvm : u.vm.Alike U.vm) (hq : H1[a]? = H[a]?) (h : tz u H a) : tz U H1 a := ⟨h.1.moved hvm hq, h.2.moved hvm hq⟩
theorem tz1.lays {n d : String} {s : State} {a : Nat} {args : Array Value} (h : tz1 n d s s.heap a) : (Cond.laysStatic Bundle.tN n d).before args s = true := by
  obtain ⟨c, k, i, f, cell, v, h1, h2, h3, h4, h5, h6, h7, h8, h9, -⟩ := h
  exact Cond.laysStatic_of h1 h2 h3 h4 h5 h6 h7 h8 h9
theorem tz1.ref {n d : String} {s : State} {a : Nat} {args : Array Value} (h : tz1 n d s s.heap a) : (Cond.isRef (.static Bundle.tN n d)).before args s = true := by
  obtain ⟨c, k, i, f, cell, v, h1, h2, h3, h4, h5, h6, h7, h8, h9, h10, h11⟩ := h
  have he : (Term.static Bundle.tN n d).eval args s none [] s = some v := by
    simp [Term.eval, State.fieldNamed?, h2, h3, h4, h5, h6, h10]
  simp only [Cond.before, Cond.holds, Cond.value, he]
  cases v <;> simp_all [Value.isRef]
/-- a method that throws an E, and has written nothing that was there before -/
def thQ (E : String) : Array Value → State → Outcome → State → Prop := fun _ st o t => ∃ (q : Addr) (ce : Cell), o = .threw q ∧ t.heap[q]? = some ce ∧ ce.vm = .none ∧ st.vm.findClass E = some ce.cls ∧ st.WarmedH t.vm ∧ st.sameButNew ({ t with vm := st.vm } : State) [] 1 6
def Thr (l : Launch) (y : MethodName) (ws : List Cond) (rm : Room) (Pc : Array Value → State → Prop) (E : String) : Prop := MetFree l y (headSpec ws rm) Pc (fun _ _ _ _ _ => True) (thQ E)
def tQ (below : List Frame) (a : Array Value) (s : State) (E : String) : State → Prop := fun t => ∃ o, t.status = .running ∧ Ended t below o ∧ thQ E a s o t
theorem no_rows {c : Code} (h : c.exceptionTable.isEmpty = true) (pc : Nat) : ∀ x ∈ c.exceptionTable.toList, covers x pc = false := by
  intro x hx
  have h1 : c.exceptionTable = #[] := by simpa using h
  rw [h1] at hx
  simp at hx
theorem Thr.ofW {l : Launch} {y : MethodName} {ws ws' : List Cond} {rm : Room} {Pc : Array Value → State → Prop} {E : String} {cc : ByteArray} {maxL : Nat} {ret : Option FieldType}
    (hy : plainName y.cls = true) (hw : ws = Cond.code y cc maxL ret :: ws')
    (body : ∀ p e s m args below meth c s₁, BodyLoose p l y (headSpec ws rm) cc maxL ret e s m args below meth c s₁ → c.maxLocals = maxL → c.exceptionTable.isEmpty = true → Pc args s →
      W p l e (headSpec ws rm).room s m args below meth c s.heap [] 0 0 (tQ below args s E) (entryFrame m args maxL)) : Thr l y ws rm Pc E := by
  refine MetFree.of_bodyS (code := cc) (maxLocals := maxL) (ret := ret) hy ?_ ?_
  · intro args s m h hn
    obtain ⟨meth, c, h1, h2, h3, h4, h5, h6, -, -⟩ := Cond.code_spec hn (atoms_spec (ws := ws) h _ (by rw [hw]; exact List.mem_cons_self))
    exact ⟨meth, c, h1, h2, h3, h4, h5, h6⟩
  · intro p e s m args below meth c s₁ B hml hP _
    have hh0 : s₁.heap = s.heap := by rw [B.state]; rfl
    have hnt := B.noHandlers (atoms_spec (ws := ws) B.pre _ (by rw [hw]; exact List.mem_cons_self))
    obtain ⟨t, a1, o, b1, b2, b3⟩ := body p e s m args below meth c s₁ B hml hnt hP s₁ hh0 (Stand.of_body B)
    exact ⟨t, o, a1, b1, b2, b3⟩
theorem same_frame {s U : State} {k n : Nat} (h : s.sameButNew U [] k n) : s.heap.size ≤ U.heap.size ∧ ∀ q : Nat, q < s.heap.size → U.heap[q]? = s.heap[q]? := by
  obtain ⟨-, h2, -, -, -, h6⟩ := h
  refine ⟨h2, fun q hq => ?_⟩
  obtain ⟨c9, e1, e2, e3, e4⟩ := h6 q _ (Array.getElem?_eq_getElem hq)
  have hs : c9.slots = (s.heap[q]).slots := Array.ext_getElem? fun i => e4 i (by simp)
  rw [hs] at e2
  have h9 : c9 = s.heap[q] := e2
  rw [e1, h9, Array.getElem?_eq_getElem hq]
section TH
variable {p : Program} {l : Launch} {e : Env} {R : Room} {s : State} {m : MethodId} {args : Array Value} {below : List Frame} {meth : Method} {c : Code}
/-- 'throw new E()' as a method's first deed: new; dup; invokespecial; athrow -/
theorem th_new {cc : ByteArray} {pc : Nat} {ls : Array Slot} (hexec : p.tables.exec = Jvm.exec) (hb : c.code = cc) (hl : l.stackTraces = false) {own cls : String} {names : List String} {ik ic : Nat}
    (hown : s.vm.findClass own = some m.cls) (hcls : Bundle.fit cls = true) (hnames : ∀ n ∈ names, Bundle.fit n = true)
    (hk : (Cond.classLink own ik cls).before args s = true) (hini : (Cond.initialized cls).before args s = true) (h : ∀ w ∈ Bundle.ownAtoms0 own ic cls names, w.before args s = true) (hsize : ls.size = c.maxLocals)
    (d0 : decode cc pc = .ok (.new ik, 3)) (d3 : decode cc (pc + 3) = .ok (.dup, 1)) (d4 : decode cc (pc + 4) = .ok (.invokespecial ic, 3)) (d7 : decode cc (pc + 7) = .ok (.athrow, 1))
    (hout : c.exceptionTable.isEmpty = true) (hRf : names.length + 3 < R.frames) (hRl : 13 * (names.length + 1) + 43 ≤ R.locals) (hRc : 1 ≤ R.cells) (hRs : 6 ≤ R.slots) (hlocks : meth.locks = false) :
    W p l e R s m args below meth c s.heap [] 0 0 (tQ below args s cls) (F0 m pc ls []) := by
  intro T hT X
  have htr : e.platform.stackTraces = false := (show e.platform.stackTraces = l.stackTraces by rw [X.admits.platform]).trans hl
  have hins : (Cond.instantiable cls 6).before args s = true := h _ (by simp [Bundle.ownAtoms0])
  obtain ⟨vm₁, cX, kX, hfX, hkX, -, -, X₁, st1⟩ := X.newCold hexec (own := own) (C := cls) (index := ik) (n := 6) hown hk hins hini (g := F0 m pc ls []) rfl (by rw [hb]; exact d0) (by omega) (by omega)
  generalize hT1 : (T.setVm vm₁).pushCell { cls := cX, slots := kX.instanceTypes.map defaultValue, vm := .none } = T1 at X₁ st1
  have hcellA : T1.heap[T.heap.size]? = some (freshCell cX kX) := by rw [← hT1]; exact State.heap_pushCell_size _ _
  have d3' : decode c.code (pc + 3) = .ok (.dup, 1) := by rw [hb]; exact d3
  obtain ⟨U, hsteps, hrun, hend, hW, hsame, ce, hce, hO⟩ := X₁.ctorThrow0 hexec htr (own := own) (cls := cls) (names := names) (ic := ic) hown hcls hnames h (fun x hx => nomatch hx) hfX hkX hcellA (by rw [hT]; exact Nat.le_refl _)
    (g := { method := m, pc := pc + 4, locals := ls, stack := .ref T.heap.size :: .ref T.heap.size :: [], locked := none }) rfl hsize rfl rfl (rest := []) rfl
    (by rw [hb]; exact d4) (by rw [hb]; exact d7) (no_rows hout _) hRf (by simp [Value.category]; omega) hlocks
  refine ⟨U, ?_, .threw T.heap.size, hrun, hend, T.heap.size, ce, rfl, hce, hO.vm, hO.cls, hW, hsame⟩
  refine st1 _ ?_
  show Steps p.tables e below (T1.setTop { method := m, pc := pc + 3, locals := ls, stack := .ref T.heap.size :: [], locked := none }) _
  jvm_step X₁.here [X₁.here.top, hexec, d3', Value.category]
  exact hsteps
end TH
end
section
/-! a call that throws: what the caller stands at then -/
section TB
variable {p : Program} {l : Launch} {e : Env} {R : Room} {s : State} {m : MethodId} {args : Array Value} {below : List Frame} {meth : Method} {c : Code} {y : MethodName} {ws : List Cond} {rm : Room} {Pc : Array Value → State → Prop} {E : String} {maxL : Nat}
/-- the exception q of class E lies over the frame g; nothing that was there in H was written -/
def thAt (p : Program) (l : Launch) (e : Env) (R : Room) (s : State) (m : MethodId) (args : Array Value) (below : List Frame) (meth : Method) (c : Code) (H : Heap) (locs : List Loc) (cells slots : Nat) (E : String) (g : JFrame) (S : State) : Prop :=
  ∃ (q : Addr) (T' : State) (ce : Cell), Stand p l e R s m args below meth c T' locs (cells + 1) (slots + 6) ∧ T'.heap[q]? = some ce ∧ ce.vm = .none ∧ s.vm.findClass E = some ce.cls ∧ H.size ≤ T'.heap.size ∧ (∀ z : Nat, z < H.size → T'.heap[z]? = H[z]?) ∧
    Steps p.tables e below S ((T'.setTop g).pushFrame (.throwing q))
theorem th_back (hM : Thr l y ws rm Pc E) (hblind : FrameBlind Pc) (hrc : rm.cells = 1) (hrs : rm.slots = 6) (hframes : rm.frames + 1 ≤ R.frames) (hlocals : 8 + (maxL + 11) + rm.locals ≤ R.locals)
    (hws : ∀ w ∈ ws, ∀ a' U, s.WarmedH U.vm → w.before a' U = true) {bytes : ByteArray} {ret : Option FieldType} (hcode : Cond.code y bytes maxL ret ∈ ws) (hinit : ∀ a' U, s.WarmedH U.vm → (Cond.initialized y.cls).before a' U = true)
    {U : State} {locs : List Loc} {cells slots : Nat} (X : Stand p l e R s m args below meth c U locs cells slots) {g : JFrame} (hg : g.method = m) (hsize : g.locals.size = c.maxLocals) {ig : Instr} {len : Nat} (hdg : decode c.code g.pc = .ok (ig, len))
    {mk : MethodId} {a : Array Value} (hn : U.methodNamed? y = some mk) (hW : 2 * g.monitorRoom + (g.stack.map fun v => v.category).sum ≤ 8) (hc : cells + 1 ≤ R.cells) (hs : slots + 6 ≤ R.slots) (hPc : Pc a U) :
    thAt p l e R s m args below meth c U.heap locs cells slots E g (doInvoke e (U.setTop g) [] mk a).1 := by
  have h2 : (Cond.code y bytes maxL ret).before a U = true := hws _ hcode _ _ X.warmed
  obtain ⟨methY, cY, hmY, hcY, -, hlY, -, -, -, -⟩ := Cond.code_spec hn h2
  obtain ⟨kY, hkY, -⟩ := className_of_methodNamed hn
  have hinitY : kY.init = .initialized := Cond.initialized_spec (findClass_of_methodNamed hn) hkY (hinit a U X.warmed)
  have h : At U g.method c below := by rw [hg]; exact X.here
  have happ : (headSpec ws rm).appliesLoose y e.platform (U.calling g mk a) = true :=
    Spec.appliesLoose_calling (g := g) h hdg hn hkY hinitY
      (X.room_calling (g := g) (R' := (headSpec ws rm).room) hsize hmY hcY hframes (by rw [hlY]; have : (headSpec ws rm).room.locals = rm.locals := rfl; omega) (by rw [show (headSpec ws rm).room.cells = 1 from hrc]; exact hc) (by rw [show (headSpec ws rm).room.slots = 6 from hrs]; exact hs)) (atoms_intro fun w hw => hws w hw _ _ X.warmed)
  obtain ⟨mid, hmid⟩ := h.above
  have hfr : (U.setTop g).frames = (.java g :: mid) ++ below := by rw [State.frames_setTop' g h.top, hmid]; rfl
  obtain ⟨o, s₂, hsteps, -, hend, q, ce, rfl, hce, hcv, hcl, hW₂, hsm⟩ := Steps.callFree hM p X.admits X.cas X.clock (acts := []) hfr happ (hblind _ _ _ _ hPc) trivial
  rw [State.frames_setTop' g h.top, X.tail] at hend
  obtain ⟨T', X', hWT, hsame, e1⟩ := X.outOfThrown hg (mk := mk) (a := a) hend hW₂ hsm
  rw [List.append_nil] at X'
  obtain ⟨f1, f2⟩ := same_frame hsame
  have hh : T'.heap = s₂.heap := by rw [e1]; exact (throwing_heap T' g q).symm
  refine ⟨q, T', ce, X', by rw [hh]; exact hce, hcv, ?_, f1, f2, by rw [← e1]; exact hsteps⟩
  have hcl' : U.vm.findClass E = some ce.cls := hcl
  rw [X.warmed.alike.findClass] at hcl'
  exact hcl'
variable {own : String} {index n : Nat} {bytes : ByteArray} {ret : Option FieldType} {cc : ByteArray} {nL : Nat} {Ts : List Cond} {As rest : List Value}
theorem th_runS (S : CallFix p m c cc nL s args Ts own) (hM : Thr l y ws rm Pc E) (cw : CallB R s args own index y bytes maxL ret ws rm 1 6 n ∧ (Cond.static y).before args s = true) {H : Heap} (hp : PreS s H Pc As)
    {g : JFrame} (hg : g.method = m) (hn : As.length = n) (hsize : g.locals.size = nL) (hstack : g.stack = As.reverse ++ rest) (hW : 2 * g.monitorRoom + (rest.map fun v => v.category).sum ≤ 8) (hdg : decode cc g.pc = .ok (.invokestatic index, 3))
    {locs : List Loc} {cells slots : Nat} (hf : cells + 1 ≤ R.cells ∧ slots + 6 ≤ R.slots) {T : State} (hT : T.heap = H) (X : Stand p l e R s m args below meth c T locs cells slots) :
    thAt p l e R s m args below meth c H locs cells slots E { g with stack := rest } (T.setTop g) := by
  obtain ⟨⟨hrc, hrs, hfr, hlo, hws, hcw, hcode, hini, hy, hlen, hl⟩, hstt⟩ := cw
  obtain ⟨hx, hb, hml, ho, -⟩ := S
  obtain ⟨mk, hnamed⟩ := Cond.code_named hcode
  obtain ⟨methM, cM, hmethM, -, -, -, -, -, -, hsigM⟩ := Cond.code_spec hnamed hcode
  obtain ⟨kP, hkP, -⟩ := className_of_methodNamed hnamed
  have hdg' : decode c.code g.pc = .ok (.invokestatic index, 3) := by rw [hb]; exact hdg
  obtain ⟨vm₁, X₁, hstep₁⟩ := X.invokestatic hx ho hl hnamed hmethM (Cond.static_spec hnamed hmethM hstt) hkP (Cond.initialized_spec (findClass_of_methodNamed hnamed) hkP hini) hy (g := g) hg (argsL := As) (rest := rest) (hn.trans (hlen _ hsigM)) hstack hdg'
  obtain ⟨q, T', ce, X', k1, k2, k3, k4, k5, k6⟩ := th_back (bytes := bytes) (ret := ret) hM hp.1 hrc hrs hfr hlo hws hcw (fun a' U hW => word_at hW (Or.inl (by first | rfl | simp [Cond.onTables, Cond.keeps, Cond.steady])) hini) X₁ (g := { g with stack := rest }) hg (hsize.trans hml.symm) hdg' (a := As.toArray) (X₁.named hnamed) hW hf.1 hf.2 (hp.2 _ hT X₁.warmed)
  have e1 : (T.setVm vm₁).heap = H := hT
  rw [e1] at k4 k5
  exact ⟨q, T', ce, X', k1, k2, k3, k4, k5, hstep₁ _ fun acts => by rw [doInvoke_state]; exact k6⟩
theorem th_runV {C : String} {b : Addr} (S : CallFix p m c cc nL s args Ts own) (hM : Thr l y ws rm Pc E) (cw : CallW R s args own C index y bytes maxL ret ws rm 1 6 n) {H : Heap} (hp : PreV s H C b Pc As)
    {g : JFrame} (hg : g.method = m) (hn : As.length = n) (hsize : g.locals.size = nL) (hstack : g.stack = As.reverse ++ .ref b :: rest) (hW : 2 * g.monitorRoom + (rest.map fun v => v.category).sum ≤ 8) (hdg : decode cc g.pc = .ok (.invokevirtual index, 3))
    {locs : List Loc} {cells slots : Nat} (hf : cells + 1 ≤ R.cells ∧ slots + 6 ≤ R.slots) {T : State} (hT : T.heap = H) (X : Stand p l e R s m args below meth c T locs cells slots) :
    thAt p l e R s m args below meth c H locs cells slots E { g with stack := rest } (T.setTop g) := by
  obtain ⟨⟨hrc, hrs, hfr, hlo, hws, hcw, hcode, hini, hy, hlen, hl⟩, hinst, hsel⟩ := cw
  obtain ⟨hx, hb, hml, ho, -⟩ := S
  obtain ⟨hbl, ⟨cellB, hcB, hoB, hclB⟩, hPc⟩ := hp
  obtain ⟨mk, methM, hnamed, hmethM, hstM, habM⟩ := Cond.instanceMethod_spec hinst
  obtain ⟨methM', cM, hmethM', -, -, -, -, -, -, hsigM⟩ := Cond.code_spec hnamed hcode
  cases hmethM.symm.trans hmethM'
  obtain ⟨c2, r2, m2, q1, q2, q3, q4, kP, hkP, hkPi⟩ := Cond.selects_spec hsel
  cases hclB.symm.trans q1
  cases (State.methodFound?_of_named hnamed hy).symm.trans q2
  cases hnamed.symm.trans q3
  have hselP : selectMethod e.platform s.vm cellB.cls mk = .method mk := by rw [Launch.admits_selectMethod X.admits]; exact q4
  have hdg' : decode c.code g.pc = .ok (.invokevirtual index, 3) := by rw [hb]; exact hdg
  obtain ⟨vm₁, X₁, hstep₁⟩ := X.invokevirtual hx ho hl hnamed hmethM hstM hkP hkPi hy (a := b) (cell := cellB) (by rw [hT]; exact hcB) (fun z h => by rw [h] at hoB; cases hoB) hselP hmethM habM hkP hkPi (g := g) hg (argsL := As) (rest := rest) (hn.trans (hlen _ hsigM)) hstack hdg'
  obtain ⟨q, T', ce, X', k1, k2, k3, k4, k5, k6⟩ := th_back (bytes := bytes) (ret := ret) hM hbl hrc hrs hfr hlo hws hcw (fun a' U hW => word_at hW (Or.inl (by first | rfl | simp [Cond.onTables, Cond.keeps, Cond.steady])) hini) X₁ (g := { g with stack := rest }) hg (hsize.trans hml.symm) hdg' (a := (Value.ref b :: As).toArray) (X₁.named hnamed) hW hf.1 hf.2 (hPc _ hT X₁.warmed)
  have e1 : (T.setVm vm₁).heap = H := hT
  rw [e1] at k4 k5
  exact ⟨q, T', ce, X', k1, k2, k3, k4, k5, hstep₁ _ fun acts => by rw [doInvoke_state]; exact k6⟩
/-- .. and no row of this method's takes it: it goes on to the caller -/
theorem th_out {pc : Nat} {ls : Array Slot} {st0 : List Value} (hnt : c.exceptionTable.isEmpty = true) (hlocks : meth.locks = false)
    (h : ∀ T : State, T.heap = s.heap → Stand p l e R s m args below meth c T [] 0 0 → thAt p l e R s m args below meth c s.heap [] 0 0 E (F0 m pc ls rest) (T.setTop (F0 m pc ls st0))) :
    W p l e R s m args below meth c s.heap [] 0 0 (tQ below args s E) (F0 m pc ls st0) := by
  intro T hT X
  obtain ⟨q, T', ce, X', k1, k2, k3, k4, k5, k6⟩ := h T hT X
  obtain ⟨st1, hrun, hend, hW, hsm⟩ := X'.leaveThrown q (g := F0 m pc ls rest) rfl rfl rfl (no_rows hnt _) hlocks
  exact ⟨_, k6.trans st1, .threw q, hrun, hend, q, ce, rfl, k1, k2, k3, hW, hsm⟩
end TB
end
section
/-! a row of the method's own table takes the exception -/
/-- the search ends at a handler, and has noted classes on its way -/
def fdTo (e : Env) (s : State) (f : JFrame) (a : Addr) (h : Handler) (vm' : Vm) : Prop := ∀ (Q : Handler → Pre) (E : CtlPost) (d : Bool) (acts : List Action), wp (findHandler f a) Q E e d acts s ↔ Q h d acts (s.setVm vm')
theorem fd_step {e : Env} {s : State} {a : Addr} {f : JFrame} {r : List Frame} {pc : Nat} {vm' : Vm} (h : fdTo e s f a (.found pc) vm') :
    (stepThrowing e s a (.java f :: r)).Is ((s.setVm vm').setFrames (.java { f with pc := pc, stack := [.ref a] } :: r)) [] := by
  simp only [stepThrowing, searchFrame, vmDo]
  generalize hr : Sem.go _ e false [] s = res
  obtain ⟨as, rfl, ha⟩ := Sem.eq_ok_of hr (a := Handler.found pc) (s' := s.setVm vm') (acts' := []) (by simp [h _ _ _ _])
  exact ⟨rfl, ha⟩
theorem fd_steps {tb : Tables} {e : Env} {s target : State} {g : JFrame} {c : Code} {below : List Frame} {a : Addr} (h : At s g.method c below) {pc : Nat} {vm' : Vm}
    (hfind : fdTo e ((s.setTop g).pushFrame (.throwing a)) g a (.found pc) vm') (hrest : Steps tb e below ((s.setVm vm').setTop { g with pc := pc, stack := [.ref a] }) target) :
    Steps tb e below ((s.setTop g).pushFrame (.throwing a)) target := by
  obtain ⟨hgo, hw⟩ := h.throwing a
  obtain ⟨g₀, hg⟩ := Option.isSome_iff_exists.mp h.top
  obtain ⟨r, hr⟩ := State.topJava?_eq_some.mp hg
  refine Steps.head hgo hw ?_
  rw [stepThread_throwing (frames_entered h.top _), (fd_step hfind).1]
  have hr' : (s.setVm vm').frames = .java g₀ :: r := hr
  rw [State.setTop_of_frames _ hr'] at hrest
  have c1 : ∀ (u : State) (F G : List Frame), ((u.setFrames F).setVm vm').setFrames G = (u.setVm vm').setFrames G := fun u F G => by
    show ((u.setVm vm').setFrames F).setFrames G = _
    rw [State.setFrames_setFrames]
  rw [hr, List.tail_cons, State.pushFrame, c1, State.setTop_of_frames _ hr, c1]
  exact hrest
section FDG
variable {Q : Handler → Pre} {E : CtlPost} {e : Env} {d : Bool} {acts : List Action} {s : State} {f : JFrame} {a : Addr} {x : ExceptionTableEntry} {t : List ExceptionTableEntry} {c : ClassId} {cell : Cell}
theorem fd_yes (hx : covers x f.pc = true) (h0 : x.catchType ≠ 0) (hl : s.vm.ClassLinks e.platform f.method.cls x.catchType c) (hcell : s.heap[a]? = some cell) (hobj : ∀ k, cell.vm ≠ .statics k)
    (hk : ∃ k, s.vm.classes[cell.cls]? = some k) (hc : ∃ k, s.vm.classes[c]? = some k) (hfit : s.vm.assignable cell.cls c = true) :
    wp (findHandler.go f a (x :: t)) Q E e d acts s ↔ Q (.found x.handlerPc) d acts (s.setVm (s.vm.noted f.method.cls x.catchType (.cls c))) := by
  obtain ⟨ha, ht⟩ := (resolveClass_links e.toSetting hl).op (op := VmOp.resolveClass f.method.cls x.catchType) rfl
  have hal : s.vm.Alike (s.vm.noted f.method.cls x.catchType (.cls c)) := (Vm.Alike.refl s.vm).noted _ _ _
  obtain ⟨k1, hk1⟩ := hk
  obtain ⟨k2, hk2⟩ := hc
  obtain ⟨k1', hk1', -⟩ := hal.2.2 _ _ hk1
  obtain ⟨k2', hk2', -⟩ := hal.2.2 _ _ hk2
  rw [← hal.assignable] at hfit
  simp only [covers] at hx
  simp [findHandler.go, hx, h0, ha, ht, hcell, hobj, hk1', hk2', hfit, VmOp.dirties, VmOp.acts]
theorem fd_no (hx : covers x f.pc = true) (h0 : x.catchType ≠ 0) (hl : s.vm.ClassLinks e.platform f.method.cls x.catchType c) (hcell : s.heap[a]? = some cell) (hobj : ∀ k, cell.vm ≠ .statics k)
    (hk : ∃ k, s.vm.classes[cell.cls]? = some k) (hc : ∃ k, s.vm.classes[c]? = some k) (hfit : s.vm.assignable cell.cls c = false) :
    wp (findHandler.go f a (x :: t)) Q E e d acts s ↔ wp (findHandler.go f a t) Q E e d acts (s.setVm (s.vm.noted f.method.cls x.catchType (.cls c))) := by
  obtain ⟨ha, ht⟩ := (resolveClass_links e.toSetting hl).op (op := VmOp.resolveClass f.method.cls x.catchType) rfl
  have hal : s.vm.Alike (s.vm.noted f.method.cls x.catchType (.cls c)) := (Vm.Alike.refl s.vm).noted _ _ _
  obtain ⟨k1, hk1⟩ := hk
  obtain ⟨k2, hk2⟩ := hc
  obtain ⟨k1', hk1', -⟩ := hal.2.2 _ _ hk1
  obtain ⟨k2', hk2', -⟩ := hal.2.2 _ _ hk2
  rw [← hal.assignable] at hfit
  simp only [covers] at hx
  simp [findHandler.go, hx, h0, ha, ht, hcell, hobj, hk1', hk2', hfit, VmOp.dirties, VmOp.acts]
end FDG
section TC
variable {p : Program} {l : Launch} {e : Env} {R : Room} {s : State} {m : MethodId} {args : Array Value} {below : List Frame} {meth : Method} {c : Code} {H : Heap} {locs : List Loc} {cells slots : Nat} {Q : State → Prop} {E own : String} {pc : Nat} {ls : Array Slot} {rest st0 : List Value}
/-- the first row takes it -/
theorem th_catch1 {x : ExceptionTableEntry} {suf : List ExceptionTableEntry} (hrows : c.exceptionTable.toList = x :: suf) (hx : covers x pc = true) (h0 : x.catchType ≠ 0) (hown : s.vm.findClass own = some m.cls)
    (hlink : (Cond.classLink own x.catchType E).before args s = true) (hcast : (Cond.castable E E).before args s = true)
    (h : ∀ T : State, T.heap = H → Stand p l e R s m args below meth c T locs cells slots → thAt p l e R s m args below meth c H locs cells slots E (F0 m pc ls rest) (T.setTop (F0 m pc ls st0)))
    (kk : ∀ (q : Addr) (H1 : Heap), H.size ≤ H1.size → (∀ z : Nat, z < H.size → H1[z]? = H[z]?) → W p l e R s m args below meth c H1 locs (cells + 1) (slots + 6) Q (F0 m x.handlerPc ls [.ref q])) :
    W p l e R s m args below meth c H locs cells slots Q (F0 m pc ls st0) := by
  intro T hT X
  obtain ⟨q, T', ce, X', k1, k2, k3, k4, k5, k6⟩ := h T hT X
  have hpl : e.platform.magicAccessors = ({} : Platform).magicAccessors := by rw [X.admits.platform]
  obtain ⟨c3, c4, hc3, hc4, hasg⟩ := Cond.castable_spec hcast
  cases hc3.symm.trans k3
  cases hc4.symm.trans k3
  obtain ⟨c5, hc5, hcl5⟩ := Cond.classLink_spec hown hlink e.platform hpl
  cases hc5.symm.trans k3
  obtain ⟨kE, hkE, -⟩ := Vm.findClass_spec k3
  obtain ⟨dk, _, _, kt, hd, _, _, _, _, hkt, _, hopen⟩ := hcl5.here
  obtain ⟨kE', hkE', -⟩ := X'.warmed.alike.2.2 _ _ hkE
  have hW2 : s.WarmedH (T'.vm.noted m.cls x.catchType (.cls ce.cls)) := X'.warmed.noted hd hopen (State.rightAt_cls hcl5)
  have hfd : fdTo e ((T'.setTop (F0 m pc ls rest)).pushFrame (.throwing q)) (F0 m pc ls rest) q (.found x.handlerPc) (T'.vm.noted m.cls x.catchType (.cls ce.cls)) := fun Q1 E1 d1 a1 => by
    rw [W.findHandler_eq (meth := meth) (code := c) X'.method' X'.code, hrows]
    exact fd_yes (s := (T'.setTop (F0 m pc ls rest)).pushFrame (.throwing q)) (f := F0 m pc ls rest) hx h0 (X'.warmed.classLinks hcl5) k1 (fun k hk => by rw [k2] at hk; cases hk) ⟨kE', hkE'⟩ ⟨kE', hkE'⟩ (by show T'.vm.assignable _ _ = true; rw [X'.warmed.alike.assignable]; exact hasg)
  obtain ⟨t, a1, b1⟩ := kk q T'.heap k4 k5 (T'.setVm (T'.vm.noted m.cls x.catchType (.cls ce.cls))) rfl (X'.noted hW2)
  exact ⟨t, k6.trans (fd_steps X'.here hfd a1), b1⟩
/-- the first row doesn't take it, the second does -/
theorem th_catch2 {x y : ExceptionTableEntry} {suf : List ExceptionTableEntry} {N : String} (hrows : c.exceptionTable.toList = y :: x :: suf) (hy : covers y pc = true) (hy0 : y.catchType ≠ 0) (hx : covers x pc = true) (h0 : x.catchType ≠ 0) (hown : s.vm.findClass own = some m.cls)
    (hlinkN : (Cond.classLink own y.catchType N).before args s = true) (hno : va_Nc E N s) (hlink : (Cond.classLink own x.catchType E).before args s = true) (hcast : (Cond.castable E E).before args s = true)
    (h : ∀ T : State, T.heap = H → Stand p l e R s m args below meth c T locs cells slots → thAt p l e R s m args below meth c H locs cells slots E (F0 m pc ls rest) (T.setTop (F0 m pc ls st0)))
    (kk : ∀ (q : Addr) (H1 : Heap), H.size ≤ H1.size → (∀ z : Nat, z < H.size → H1[z]? = H[z]?) → W p l e R s m args below meth c H1 locs (cells + 1) (slots + 6) Q (F0 m x.handlerPc ls [.ref q])) :
    W p l e R s m args below meth c H locs cells slots Q (F0 m pc ls st0) := by
  intro T hT X
  obtain ⟨q, T', ce, X', k1, k2, k3, k4, k5, k6⟩ := h T hT X
  have hpl : e.platform.magicAccessors = ({} : Platform).magicAccessors := by rw [X.admits.platform]
  obtain ⟨c3, c4, hc3, hc4, hasg⟩ := Cond.castable_spec hcast
  cases hc3.symm.trans k3
  cases hc4.symm.trans k3
  obtain ⟨c5, hc5, hcl5⟩ := Cond.classLink_spec hown hlink e.platform hpl
  cases hc5.symm.trans k3
  obtain ⟨cN, hcN, hclN⟩ := Cond.classLink_spec hown hlinkN e.platform hpl
  obtain ⟨a8, b8, n1, n2, n3⟩ := hno
  cases n1.symm.trans k3
  cases n2.symm.trans hcN
  obtain ⟨kE, hkE, -⟩ := Vm.findClass_spec k3
  obtain ⟨kN, hkN, -⟩ := Vm.findClass_spec hcN
  obtain ⟨dk, _, _, kt, hd, _, _, _, _, hkt, _, hopen⟩ := hcl5.here
  obtain ⟨dk2, _, _, kt2, hd2, _, _, _, _, hkt2, _, hopen2⟩ := hclN.here
  have hW1 : s.WarmedH (T'.vm.noted m.cls y.catchType (.cls cN)) := X'.warmed.noted hd2 hopen2 (State.rightAt_cls hclN)
  have hW2 : s.WarmedH ((T'.vm.noted m.cls y.catchType (.cls cN)).noted m.cls x.catchType (.cls ce.cls)) := hW1.noted hd hopen (State.rightAt_cls hcl5)
  obtain ⟨kE', hkE', -⟩ := X'.warmed.alike.2.2 _ _ hkE
  obtain ⟨kN', hkN', -⟩ := X'.warmed.alike.2.2 _ _ hkN
  obtain ⟨kE2, hkE2, -⟩ := hW1.alike.2.2 _ _ hkE
  have hfd : fdTo e ((T'.setTop (F0 m pc ls rest)).pushFrame (.throwing q)) (F0 m pc ls rest) q (.found x.handlerPc) ((T'.vm.noted m.cls y.catchType (.cls cN)).noted m.cls x.catchType (.cls ce.cls)) := fun Q1 E1 d1 a1 => by
    rw [W.findHandler_eq (meth := meth) (code := c) X'.method' X'.code, hrows]
    rw [fd_no (s := (T'.setTop (F0 m pc ls rest)).pushFrame (.throwing q)) (f := F0 m pc ls rest) hy hy0 (X'.warmed.classLinks hclN) k1 (fun k hk => by rw [k2] at hk; cases hk) ⟨kE', hkE'⟩ ⟨kN', hkN'⟩ (by show T'.vm.assignable _ _ = false; rw [X'.warmed.alike.assignable]; exact n3)]
    exact fd_yes (s := ((T'.setTop (F0 m pc ls rest)).pushFrame (.throwing q)).setVm (T'.vm.noted m.cls y.catchType (.cls cN))) (f := F0 m pc ls rest) hx h0 (hW1.classLinks hcl5) k1 (fun k hk => by rw [k2] at hk; cases hk) ⟨kE2, hkE2⟩ ⟨kE2, hkE2⟩ (by show (T'.vm.noted m.cls y.catchType (.cls cN)).assignable _ _ = true; rw [hW1.alike.assignable]; exact hasg)
  obtain ⟨t, a1, b1⟩ := kk q T'.heap k4 k5 (T'.setVm ((T'.vm.noted m.cls y.catchType (.cls cN)).noted m.cls x.catchType (.cls ce.cls))) rfl (X'.noted hW2)
  exact ⟨t, k6.trans (fd_steps X'.here hfd a1), b1⟩
end TC
end
section
/-! the class's three throws -/
def E_A : String := "java/lang/IllegalArgumentException"
def E_S : String := "java/lang/IllegalStateException"
def E_I : String := "java/lang/IndexOutOfBoundsException"
def e_up : List String := ["java/lang/RuntimeException", "java/lang/Exception"]
/-- what a throw needs of the tables beside the good words -/
def e_in (c d : String) : MethodName := ⟨c, "<init>", d⟩
def e_dec : List MethodName := [e_in "java/lang/RuntimeException" "()V", e_in "java/lang/RuntimeException" "(Ljava/lang/String;)V", e_in "java/lang/Exception" "()V", e_in "java/lang/Exception" "(Ljava/lang/String;)V", e_in "java/lang/Throwable" "()V", e_in "java/lang/Throwable" "(Ljava/lang/String;)V"]
def nwz (U : State) : Prop := (va_Nw (.castable E_A E_A) U ∧ va_Nw (.castable E_S E_S) U ∧ va_Nw (.castable E_I E_I) U) ∧ ∀ y ∈ e_dec, va_Nw (.declares y) U
theorem nwz.warm {s U : State} (hW : s.WarmedH U.vm) (h : nwz s) : nwz U := ⟨⟨va_Nw.warmC hW h.1.1, va_Nw.warmC hW h.1.2.1, va_Nw.warmC hW h.1.2.2⟩, fun y hy => va_Nw.warmD hW (h.2 y hy)⟩
/-- a start that may throw: Throwable's statics lie at az -/
def tP (az : Nat) (av : List Value) : Array Value → State → Prop := va_Pc av (fun U => tz U U.heap az ∧ nwz U)
theorem tP_blind {az : Nat} {av : List Value} : FrameBlind (tP az av) := fun a U g mk q => by
  obtain ⟨q0, q1, q2⟩ := q
  exact ⟨q0, q1.moved (Vm.Alike.refl U.vm) rfl, ⟨va_Nw.same rfl rfl q2.1.1, va_Nw.same rfl rfl q2.1.2.1, va_Nw.same rfl rfl q2.1.2.2⟩, fun y hy => va_Nw.same rfl rfl (q2.2 y hy)⟩
theorem tP_s {s : State} {H : Heap} {az : Nat} {As : List Value} (hz : tz s H az) (hn : nwz s) : PreS s H (tP az As) As := ⟨tP_blind, fun U hU hW => ⟨rfl, by rw [hU]; exact hz.moved hW.alike rfl, hn.warm hW⟩⟩
def zrest (E : String) : List Cond := e_dec.map Cond.declares ++ [.castable E E, .isRef (.static Bundle.tN "UNASSIGNED_STACK" Bundle.steD), .isRef (.static Bundle.tN "SUPPRESSED_SENTINEL" Bundle.listD), .laysStatic Bundle.tN "UNASSIGNED_STACK" Bundle.steD, .laysStatic Bundle.tN "SUPPRESSED_SENTINEL" Bundle.listD]
theorem own_all {own E : String} {ic : Nat} (h1 : ((Bundle.ownAtoms0 own ic E e_up).filter goodWord).all (fun w => decide (w ∈ lw_tbl)) = true) (h2 : ((Bundle.ownAtoms0 own ic E e_up).filter (fun w => !goodWord w)).all (fun w => decide (w ∈ zrest E)) = true)
    {M : Cond} {s : State} {args : Array Value} {az : Nat} (hts : ∀ w ∈ M :: gw, w.before args s = true) (hz : tz s s.heap az) (hn : va_Nw (.castable E E) s) (hd : ∀ y ∈ e_dec, va_Nw (.declares y) s) : ∀ w ∈ Bundle.ownAtoms0 own ic E e_up, w.before args s = true := by
  intro w hw
  cases hg : goodWord w with
  | true => exact hts w (List.mem_cons_of_mem _ (gw_in (of_decide_eq_true (List.all_eq_true.mp h1 w (List.mem_filter.mpr ⟨hw, hg⟩))) hg))
  | false =>
    have h3 : w ∈ zrest E := of_decide_eq_true (List.all_eq_true.mp h2 w (List.mem_filter.mpr ⟨hw, by simp [hg]⟩))
    rcases List.mem_append.mp h3 with h4 | h3
    · obtain ⟨y, hy, rfl⟩ := List.mem_map.mp h4
      exact va_Nw.use rfl (hd y hy)
    simp only [List.mem_cons, List.not_mem_nil, or_false] at h3
    rcases h3 with rfl | rfl | rfl | rfl | rfl
    · exact va_Nw.use rfl hn
    · exact hz.1.ref
    · exact hz.2.ref
    · exact hz.1.lays
    · exact hz.2.lays
/-- a start of the class's that may throw -/
def xT (D : va_G) (cl : List vw_C) (tys : List (ClassId × FieldType)) (ws : va_W) (az : Nat) (av : List Value) : Array Value → State → Prop := va_Pc av (fun U => va_P D cl ws U.heap ∧ va_K D cl tys U ∧ tz U U.heap az ∧ nwz U)
theorem xT_blind {D : va_G} {cl : List vw_C} {tys : List (ClassId × FieldType)} {ws : va_W} {az : Nat} {av : List Value} : FrameBlind (xT D cl tys ws az av) := fun a U g mk q => by
  obtain ⟨q0, qP, qK, q1, q2⟩ := q
  exact ⟨q0, qP, va_K.moved (u := U) (U := U.calling g mk a) (Vm.Alike.refl U.vm) qK, q1.moved (Vm.Alike.refl U.vm) rfl, ⟨va_Nw.same rfl rfl q2.1.1, va_Nw.same rfl rfl q2.1.2.1, va_Nw.same rfl rfl q2.1.2.2⟩, fun y hy => va_Nw.same rfl rfl (q2.2 y hy)⟩
theorem xT_v {s : State} {H : Heap} {D : va_G} {cl : List vw_C} {tys : List (ClassId × FieldType)} {ws : va_W} {As : List Value} {b ci az : Nat} {fs : List Value} {q : vw_C} (hP : va_P D cl ws H) (hK : va_K D cl tys s) (hz : tz s H az) (hn : nwz s) (k : Nat) (he : ws[k]? = some (b, .inr (ci, fs))) (hc : cl[ci]? = some q) : PreV s H q.1 b (xT D cl tys ws az (.ref b :: As)) As :=
  ⟨xT_blind, va_recv hK hP hc he, fun U hU hW => ⟨rfl, by rw [hU]; exact hP, va_K.moved hW.alike hK, by rw [hU]; exact hz.moved hW.alike rfl, hn.warm hW⟩⟩
end
section
abbrev b_C_isPowered : ByteArray := prog_2_method_2_code
def y_C_isPowered : MethodName := ⟨R_C, "isPowered", "()Z"⟩
def w_C_isPowered : List Cond := .code y_C_isPowered b_C_isPowered 1 (some (.boolean)) :: gw
abbrev b_C_read : ByteArray := prog_2_method_6_code
def y_C_read : MethodName := ⟨R_C, "read", "(II)I"⟩
def w_C_read : List Cond := .code y_C_read b_C_read 3 (some (.int)) :: gw
abbrev b_C_wearAt : ByteArray := prog_2_method_8_code
def y_C_wearAt : MethodName := ⟨R_C, "wearAt", "(I)I"⟩
def w_C_wearAt : List Cond := .code y_C_wearAt b_C_wearAt 2 (some (.int)) :: gw
abbrev b_C_isFree : ByteArray := prog_2_method_14_code
def y_C_isFree : MethodName := ⟨R_C, "isFree", "(I)Z"⟩
def w_C_isFree : List Cond := .code y_C_isFree b_C_isFree 4 (some (.boolean)) :: gw
abbrev b_C_isRight : ByteArray := prog_2_method_15_code
def y_C_isRight : MethodName := ⟨R_C, "isRight", "(I)Z"⟩
def w_C_isRight : List Cond := .code y_C_isRight b_C_isRight 3 (some (.boolean)) :: gw
abbrev b_C_freePagesOf : ByteArray := prog_2_method_19_code
def y_C_freePagesOf : MethodName := ⟨R_C, "freePagesOf", "(I)I"⟩
def w_C_freePagesOf : List Cond := .code y_C_freePagesOf b_C_freePagesOf 4 (some (.int)) :: gw
abbrev b_C_usableFreePages : ByteArray := prog_2_method_20_code
def y_C_usableFreePages : MethodName := ⟨R_C, "usableFreePages", "()I"⟩
def w_C_usableFreePages : List Cond := .code y_C_usableFreePages b_C_usableFreePages 3 (some (.int)) :: gw
abbrev b_C_turnOff : ByteArray := prog_2_method_3_code
def y_C_turnOff : MethodName := ⟨R_C, "turnOff", "()V"⟩
def w_C_turnOff : List Cond := .code y_C_turnOff b_C_turnOff 1 none :: gw
abbrev b_C_turnOn : ByteArray := prog_2_method_4_code
def y_C_turnOn : MethodName := ⟨R_C, "turnOn", "()V"⟩
def w_C_turnOn : List Cond := .code y_C_turnOn b_C_turnOn 1 none :: gw
abbrev b_C_tellCut : ByteArray := prog_2_method_5_code
def y_C_tellCut : MethodName := ⟨R_C, "tellCut", "(I)V"⟩
def w_C_tellCut : List Cond := .code y_C_tellCut b_C_tellCut 2 none :: gw
abbrev b_C_flip : ByteArray := prog_2_method_7_code
def y_C_flip : MethodName := ⟨R_C, "flip", "(III)V"⟩
def w_C_flip : List Cond := .code y_C_flip b_C_flip 4 none :: gw
abbrev b_C_markFailed : ByteArray := prog_2_method_9_code
def y_C_markFailed : MethodName := ⟨R_C, "markFailed", "(I)V"⟩
def w_C_markFailed : List Cond := .code y_C_markFailed b_C_markFailed 2 none :: gw
abbrev b_G_recordCount : ByteArray := prog_4_method_3_code
def y_G_recordCount : MethodName := ⟨R_G, "recordCount", "()I"⟩
def w_G_recordCount : List Cond := .code y_G_recordCount b_G_recordCount 1 (some (.int)) :: gw
abbrev b_G_ticketCount : ByteArray := prog_4_method_4_code
def y_G_ticketCount : MethodName := ⟨R_G, "ticketCount", "()I"⟩
def w_G_ticketCount : List Cond := .code y_G_ticketCount b_G_ticketCount 1 (some (.int)) :: gw
abbrev b_G_hasTicket : ByteArray := prog_4_method_11_code
def y_G_hasTicket : MethodName := ⟨R_G, "hasTicket", "(I)Z"⟩
def w_G_hasTicket : List Cond := .code y_G_hasTicket b_G_hasTicket 2 (some (.boolean)) :: gw
abbrev b_G_empty : ByteArray := prog_4_method_2_code
def y_G_empty : MethodName := ⟨R_G, "empty", "()V"⟩
def w_G_empty : List Cond := .code y_G_empty b_G_empty 1 none :: gw
abbrev b_S_durableCount : ByteArray := prog_5_method_4_code
def y_S_durableCount : MethodName := ⟨R_S, "durableCount", "()I"⟩
def w_S_durableCount : List Cond := .code y_S_durableCount b_S_durableCount 1 (some (.int)) :: gw
abbrev b_S_latestSerial : ByteArray := prog_5_method_5_code
def y_S_latestSerial : MethodName := ⟨R_S, "latestSerial", "()I"⟩
def w_S_latestSerial : List Cond := .code y_S_latestSerial b_S_latestSerial 1 (some (.int)) :: gw
abbrev b_S_cursorBlock : ByteArray := prog_5_method_6_code
def y_S_cursorBlock : MethodName := ⟨R_S, "cursorBlock", "()I"⟩
def w_S_cursorBlock : List Cond := .code y_S_cursorBlock b_S_cursorBlock 1 (some (.int)) :: gw
abbrev b_S_isLive : ByteArray := prog_5_method_8_code
def y_S_isLive : MethodName := ⟨R_S, "isLive", "(I)Z"⟩
def w_S_isLive : List Cond := .code y_S_isLive b_S_isLive 3 (some (.boolean)) :: gw
abbrev b_S_livePageCount : ByteArray := prog_5_method_7_code
def y_S_livePageCount : MethodName := ⟨R_S, "livePageCount", "()I"⟩
def w_S_livePageCount : List Cond := .code y_S_livePageCount b_S_livePageCount 3 (some (.int)) :: gw
abbrev b_S_findNewestPages : ByteArray := prog_5_method_20_code
def y_S_findNewestPages : MethodName := ⟨R_S, "findNewestPages", "()I"⟩
def w_S_findNewestPages : List Cond := .code y_S_findNewestPages b_S_findNewestPages 4 (some (.int)) :: gw
abbrev b_S_restore : ByteArray := prog_5_method_19_code
def y_S_restore : MethodName := ⟨R_S, "restore", "(LWeighRecorder$Log;)V"⟩
def w_S_restore : List Cond := .code y_S_restore b_S_restore 5 none :: gw
abbrev b_R_forgetReadings : ByteArray := prog_1_method_22_code
def y_R_forgetReadings : MethodName := ⟨R_R, "forgetReadings", "()V"⟩
def w_R_forgetReadings : List Cond := .code y_R_forgetReadings b_R_forgetReadings 1 none :: gw
abbrev b_R_crash : ByteArray := prog_1_method_14_code
def y_R_crash : MethodName := ⟨R_R, "crash", "()V"⟩
def w_R_crash : List Cond := .code y_R_crash b_R_crash 1 none :: gw
abbrev b_R_mount : ByteArray := prog_1_method_15_code
def y_R_mount : MethodName := ⟨R_R, "mount", "()I"⟩
def w_R_mount : List Cond := .code y_R_mount b_R_mount 1 (some (.int)) :: gw
abbrev b_M_thrown : ByteArray := prog_7_method_2_code
def y_M_thrown : MethodName := ⟨R_M, "thrown", "()I"⟩
def w_M_thrown : List Cond := .code y_M_thrown b_M_thrown 1 (some (.int)) :: gw
abbrev b_M_isIn : ByteArray := prog_7_method_4_code
def y_M_isIn : MethodName := ⟨R_M, "isIn", "(III)Z"⟩
def w_M_isIn : List Cond := .code y_M_isIn b_M_isIn 3 (some (.boolean)) :: gw
abbrev b_R_isWithin : ByteArray := prog_1_method_23_code
def y_R_isWithin : MethodName := ⟨R_R, "isWithin", "(III)Z"⟩
def w_R_isWithin : List Cond := .code y_R_isWithin b_R_isWithin 3 (some (.boolean)) :: gw
abbrev b_M_fails : ByteArray := prog_7_method_3_code
def y_M_fails : MethodName := ⟨R_M, "fails", "(IZ)Z"⟩
def w_M_fails : List Cond := .code y_M_fails b_M_fails 3 (some (.boolean)) :: gw
abbrev b_M_forget : ByteArray := prog_7_method_5_code
def y_M_forget : MethodName := ⟨R_M, "forget", "()V"⟩
def w_M_forget : List Cond := .code y_M_forget b_M_forget 2 none :: gw
abbrev b_M_off : ByteArray := prog_7_method_6_code
def y_M_off : MethodName := ⟨R_M, "off", "()V"⟩
def w_M_off : List Cond := .code y_M_off b_M_off 1 none :: gw
abbrev b_M_isFree : ByteArray := prog_7_method_10_code
def y_M_isFree : MethodName := ⟨R_M, "isFree", "(I)Z"⟩
def w_M_isFree : List Cond := .code y_M_isFree b_M_isFree 4 (some (.boolean)) :: gw
abbrev b_M_isRight : ByteArray := prog_7_method_11_code
def y_M_isRight : MethodName := ⟨R_M, "isRight", "(I)Z"⟩
def w_M_isRight : List Cond := .code y_M_isRight b_M_isRight 3 (some (.boolean)) :: gw
abbrev b_M_placeOf : ByteArray := prog_7_method_25_code
def y_M_placeOf : MethodName := ⟨R_M, "placeOf", "(I)I"⟩
def w_M_placeOf : List Cond := .code y_M_placeOf b_M_placeOf 4 (some (.int)) :: gw
abbrev b_M_tickets : ByteArray := prog_7_method_26_code
def y_M_tickets : MethodName := ⟨R_M, "tickets", "()I"⟩
def w_M_tickets : List Cond := .code y_M_tickets b_M_tickets 3 (some (.int)) :: gw
abbrev b_M_durable : ByteArray := prog_7_method_28_code
def y_M_durable : MethodName := ⟨R_M, "durable", "()I"⟩
def w_M_durable : List Cond := .code y_M_durable b_M_durable 3 (some (.int)) :: gw
abbrev b_M_liveCount : ByteArray := prog_7_method_55_code
def y_M_liveCount : MethodName := ⟨R_M, "liveCount", "()I"⟩
def w_M_liveCount : List Cond := .code y_M_liveCount b_M_liveCount 3 (some (.int)) :: gw
abbrev b_M_freePages : ByteArray := prog_7_method_56_code
def y_M_freePages : MethodName := ⟨R_M, "freePages", "()I"⟩
def w_M_freePages : List Cond := .code y_M_freePages b_M_freePages 3 (some (.int)) :: gw
abbrev b_M_latest : ByteArray := prog_7_method_48_code
def y_M_latest : MethodName := ⟨R_M, "latest", "(I)I"⟩
def w_M_latest : List Cond := .code y_M_latest b_M_latest 4 (some (.int)) :: gw
abbrev b_M_axle : ByteArray := prog_7_method_30_code
def y_M_axle : MethodName := ⟨R_M, "axle", "(I)I"⟩
def w_M_axle : List Cond := .code y_M_axle b_M_axle 2 (some (.int)) :: gw
abbrev b_M_close : ByteArray := prog_7_method_31_code
def y_M_close : MethodName := ⟨R_M, "close", "(IIII)I"⟩
def w_M_close : List Cond := .code y_M_close b_M_close 7 (some (.int)) :: gw
abbrev b_M_annul : ByteArray := prog_7_method_32_code
def y_M_annul : MethodName := ⟨R_M, "annul", "(II)I"⟩
def w_M_annul : List Cond := .code y_M_annul b_M_annul 4 (some (.int)) :: gw
abbrev b_M_sync : ByteArray := prog_7_method_33_code
def y_M_sync : MethodName := ⟨R_M, "sync", "()I"⟩
def w_M_sync : List Cond := .code y_M_sync b_M_sync 3 (some (.int)) :: gw
abbrev b_M_ticket : ByteArray := prog_7_method_34_code
def y_M_ticket : MethodName := ⟨R_M, "ticket", "(II)I"⟩
def w_M_ticket : List Cond := .code y_M_ticket b_M_ticket 4 (some (.int)) :: gw
abbrev b_M_dayTotal : ByteArray := prog_7_method_36_code
def y_M_dayTotal : MethodName := ⟨R_M, "dayTotal", "(II)J"⟩
def w_M_dayTotal : List Cond := .code y_M_dayTotal b_M_dayTotal 7 (some (.long)) :: gw
abbrev b_M_rangeTotal : ByteArray := prog_7_method_37_code
def y_M_rangeTotal : MethodName := ⟨R_M, "rangeTotal", "(II)J"⟩
def w_M_rangeTotal : List Cond := .code y_M_rangeTotal b_M_rangeTotal 6 (some (.long)) :: gw
abbrev b_M_find : ByteArray := prog_7_method_38_code
def y_M_find : MethodName := ⟨R_M, "find", "(II)I"⟩
def w_M_find : List Cond := .code y_M_find b_M_find 4 (some (.int)) :: gw
abbrev b_M_audit : ByteArray := prog_7_method_41_code
def y_M_audit : MethodName := ⟨R_M, "audit", "(II)I"⟩
def w_M_audit : List Cond := .code y_M_audit b_M_audit 4 (some (.int)) :: gw
abbrev b_M_exportByte : ByteArray := prog_7_method_44_code
def y_M_exportByte : MethodName := ⟨R_M, "exportByte", "(III)I"⟩
def w_M_exportByte : List Cond := .code y_M_exportByte b_M_exportByte 6 (some (.int)) :: gw
abbrev b_M_setProduct : ByteArray := prog_7_method_45_code
def y_M_setProduct : MethodName := ⟨R_M, "setProduct", "(IZ)V"⟩
def w_M_setProduct : List Cond := .code y_M_setProduct b_M_setProduct 3 none :: gw
abbrev b_M_cutAfter : ByteArray := prog_7_method_46_code
def y_M_cutAfter : MethodName := ⟨R_M, "cutAfter", "(I)V"⟩
def w_M_cutAfter : List Cond := .code y_M_cutAfter b_M_cutAfter 2 none :: gw
abbrev b_M_crash : ByteArray := prog_7_method_47_code
def y_M_crash : MethodName := ⟨R_M, "crash", "()V"⟩
def w_M_crash : List Cond := .code y_M_crash b_M_crash 1 none :: gw
abbrev b_M_mount : ByteArray := prog_7_method_49_code
def y_M_mount : MethodName := ⟨R_M, "mount", "()I"⟩
def w_M_mount : List Cond := .code y_M_mount b_M_mount 6 (some (.int)) :: gw
abbrev b_M_wearOf : ByteArray := prog_7_method_50_code
def y_M_wearOf : MethodName := ⟨R_M, "wearOf", "(I)I"⟩
def w_M_wearOf : List Cond := .code y_M_wearOf b_M_wearOf 2 (some (.int)) :: gw
abbrev b_M_failBlock : ByteArray := prog_7_method_51_code
def y_M_failBlock : MethodName := ⟨R_M, "failBlock", "(I)V"⟩
def w_M_failBlock : List Cond := .code y_M_failBlock b_M_failBlock 2 none :: gw
abbrev b_M_poke : ByteArray := prog_7_method_52_code
def y_M_poke : MethodName := ⟨R_M, "poke", "(III)V"⟩
def w_M_poke : List Cond := .code y_M_poke b_M_poke 4 none :: gw
abbrev b_M_word : ByteArray := prog_7_method_53_code
def y_M_word : MethodName := ⟨R_M, "word", "(II)I"⟩
def w_M_word : List Cond := .code y_M_word b_M_word 3 (some (.int)) :: gw
abbrev b_M_state : ByteArray := prog_7_method_54_code
def y_M_state : MethodName := ⟨R_M, "state", "(I)I"⟩
def w_M_state : List Cond := .code y_M_state b_M_state 2 (some (.int)) :: gw
abbrev b_R_requireArgument : ByteArray := prog_1_method_26_code
def y_R_requireArgument : MethodName := ⟨R_R, "requireArgument", "(Z)V"⟩
def w_R_requireArgument : List Cond := .code y_R_requireArgument b_R_requireArgument 1 none :: gw
abbrev b_R_requireState : ByteArray := prog_1_method_27_code
def y_R_requireState : MethodName := ⟨R_R, "requireState", "(Z)V"⟩
def w_R_requireState : List Cond := .code y_R_requireState b_R_requireState 1 none :: gw
abbrev b_R_requireIndex : ByteArray := prog_1_method_28_code
def y_R_requireIndex : MethodName := ⟨R_R, "requireIndex", "(Z)V"⟩
def w_R_requireIndex : List Cond := .code y_R_requireIndex b_R_requireIndex 1 none :: gw
abbrev b_R_isProduct : ByteArray := prog_1_method_24_code
def y_R_isProduct : MethodName := ⟨R_R, "isProduct", "(I)Z"⟩
def w_R_isProduct : List Cond := .code y_R_isProduct b_R_isProduct 1 (some (.boolean)) :: gw
abbrev b_R_isPlace : ByteArray := prog_1_method_25_code
def y_R_isPlace : MethodName := ⟨R_R, "isPlace", "(II)Z"⟩
def w_R_isPlace : List Cond := .code y_R_isPlace b_R_isPlace 2 (some (.boolean)) :: gw
abbrev b_R_axle : ByteArray := prog_1_method_2_code
def y_R_axle : MethodName := ⟨R_R, "axle", "(I)I"⟩
def w_R_axle : List Cond := .code y_R_axle b_R_axle 2 (some (.int)) :: gw
abbrev b_R_close : ByteArray := prog_1_method_3_code
def y_R_close : MethodName := ⟨R_R, "close", "(IIII)I"⟩
def w_R_close : List Cond := .code y_R_close b_R_close 6 (some (.int)) :: gw
abbrev b_R_annul : ByteArray := prog_1_method_4_code
def y_R_annul : MethodName := ⟨R_R, "annul", "(II)I"⟩
def w_R_annul : List Cond := .code y_R_annul b_R_annul 3 (some (.int)) :: gw
abbrev b_R_sync : ByteArray := prog_1_method_5_code
def y_R_sync : MethodName := ⟨R_R, "sync", "()I"⟩
def w_R_sync : List Cond := .code y_R_sync b_R_sync 2 (some (.int)) :: gw
abbrev b_R_dayTotal : ByteArray := prog_1_method_7_code
def y_R_dayTotal : MethodName := ⟨R_R, "dayTotal", "(II)J"⟩
def w_R_dayTotal : List Cond := .code y_R_dayTotal b_R_dayTotal 7 (some (.long)) :: gw
abbrev b_R_rangeTotal : ByteArray := prog_1_method_8_code
def y_R_rangeTotal : MethodName := ⟨R_R, "rangeTotal", "(II)J"⟩
def w_R_rangeTotal : List Cond := .code y_R_rangeTotal b_R_rangeTotal 7 (some (.long)) :: gw
abbrev b_R_find : ByteArray := prog_1_method_9_code
def y_R_find : MethodName := ⟨R_R, "find", "(II)I"⟩
def w_R_find : List Cond := .code y_R_find b_R_find 4 (some (.int)) :: gw
abbrev b_R_audit : ByteArray := prog_1_method_10_code
def y_R_audit : MethodName := ⟨R_R, "audit", "(II)I"⟩
def w_R_audit : List Cond := .code y_R_audit b_R_audit 5 (some (.int)) :: gw
abbrev b_R_exportByte : ByteArray := prog_1_method_11_code
def y_R_exportByte : MethodName := ⟨R_R, "exportByte", "(III)I"⟩
def w_R_exportByte : List Cond := .code y_R_exportByte b_R_exportByte 7 (some (.int)) :: gw
abbrev b_R_setProduct : ByteArray := prog_1_method_12_code
def y_R_setProduct : MethodName := ⟨R_R, "setProduct", "(IZ)V"⟩
def w_R_setProduct : List Cond := .code y_R_setProduct b_R_setProduct 3 none :: gw
abbrev b_R_cutAfter : ByteArray := prog_1_method_13_code
def y_R_cutAfter : MethodName := ⟨R_R, "cutAfter", "(I)V"⟩
def w_R_cutAfter : List Cond := .code y_R_cutAfter b_R_cutAfter 2 none :: gw
abbrev b_R_wearOf : ByteArray := prog_1_method_16_code
def y_R_wearOf : MethodName := ⟨R_R, "wearOf", "(I)I"⟩
def w_R_wearOf : List Cond := .code y_R_wearOf b_R_wearOf 2 (some (.int)) :: gw
abbrev b_R_failBlock : ByteArray := prog_1_method_17_code
def y_R_failBlock : MethodName := ⟨R_R, "failBlock", "(I)V"⟩
def w_R_failBlock : List Cond := .code y_R_failBlock b_R_failBlock 2 none :: gw
abbrev b_R_poke : ByteArray := prog_1_method_18_code
def y_R_poke : MethodName := ⟨R_R, "poke", "(III)V"⟩
def w_R_poke : List Cond := .code y_R_poke b_R_poke 4 none :: gw
abbrev b_R_word : ByteArray := prog_1_method_19_code
def y_R_word : MethodName := ⟨R_R, "word", "(II)I"⟩
def w_R_word : List Cond := .code y_R_word b_R_word 3 (some (.int)) :: gw
abbrev b_R_state : ByteArray := prog_1_method_20_code
def y_R_state : MethodName := ⟨R_R, "state", "(I)I"⟩
def w_R_state : List Cond := .code y_R_state b_R_state 3 (some (.int)) :: gw
abbrev b_R_ticket : ByteArray := prog_1_method_6_code
def y_R_ticket : MethodName := ⟨R_R, "ticket", "(II)I"⟩
def w_R_ticket : List Cond := .code y_R_ticket b_R_ticket 3 (some (.int)) :: gw
abbrev b_L_axle : ByteArray := method_3_code
def y_L_axle : MethodName := ⟨R_L, "axle", "(LWeighRecorder;I[J)I"⟩
def w_L_axle : List Cond := .codeWith y_L_axle b_L_axle 4 (some (.int)) [(0, 9, 12, 13), (0, 9, 15, 15)] :: gw
abbrev b_L_close : ByteArray := method_4_code
def y_L_close : MethodName := ⟨R_L, "close", "(LWeighRecorder;IIII[J)I"⟩
def w_L_close : List Cond := .codeWith y_L_close b_L_close 7 (some (.int)) [(0, 14, 17, 13), (0, 14, 21, 15)] :: gw
abbrev b_L_annul : ByteArray := method_5_code
def y_L_annul : MethodName := ⟨R_L, "annul", "(LWeighRecorder;II[J)I"⟩
def w_L_annul : List Cond := .codeWith y_L_annul b_L_annul 5 (some (.int)) [(0, 10, 13, 13), (0, 10, 17, 15)] :: gw
abbrev b_L_sync : ByteArray := method_6_code
def y_L_sync : MethodName := ⟨R_L, "sync", "(LWeighRecorder;[J)I"⟩
def w_L_sync : List Cond := .codeWith y_L_sync b_L_sync 3 (some (.int)) [(0, 8, 11, 15)] :: gw
abbrev b_L_dayTotal : ByteArray := method_8_code
def y_L_dayTotal : MethodName := ⟨R_L, "dayTotal", "(LWeighRecorder;II[J)I"⟩
def w_L_dayTotal : List Cond := .codeWith y_L_dayTotal b_L_dayTotal 5 (some (.int)) [(0, 9, 12, 15)] :: gw
abbrev b_L_rangeTotal : ByteArray := method_9_code
def y_L_rangeTotal : MethodName := ⟨R_L, "rangeTotal", "(LWeighRecorder;II[J)I"⟩
def w_L_rangeTotal : List Cond := .codeWith y_L_rangeTotal b_L_rangeTotal 5 (some (.int)) [(0, 9, 12, 15)] :: gw
abbrev b_L_find : ByteArray := method_10_code
def y_L_find : MethodName := ⟨R_L, "find", "(LWeighRecorder;II[J)I"⟩
def w_L_find : List Cond := .codeWith y_L_find b_L_find 5 (some (.int)) [(0, 10, 13, 15)] :: gw
abbrev b_L_audit : ByteArray := method_11_code
def y_L_audit : MethodName := ⟨R_L, "audit", "(LWeighRecorder;II[J)I"⟩
def w_L_audit : List Cond := .codeWith y_L_audit b_L_audit 5 (some (.int)) [(0, 10, 13, 15)] :: gw
abbrev b_L_exportByte : ByteArray := method_12_code
def y_L_exportByte : MethodName := ⟨R_L, "exportByte", "(LWeighRecorder;III[J)I"⟩
def w_L_exportByte : List Cond := .codeWith y_L_exportByte b_L_exportByte 6 (some (.int)) [(0, 12, 15, 15)] :: gw
abbrev b_L_wearOf : ByteArray := method_15_code
def y_L_wearOf : MethodName := ⟨R_L, "wearOf", "(LWeighRecorder;I[J)I"⟩
def w_L_wearOf : List Cond := .codeWith y_L_wearOf b_L_wearOf 4 (some (.int)) [(0, 9, 12, 13)] :: gw
abbrev b_L_word : ByteArray := method_18_code
def y_L_word : MethodName := ⟨R_L, "word", "(LWeighRecorder;II[J)I"⟩
def w_L_word : List Cond := .codeWith y_L_word b_L_word 5 (some (.int)) [(0, 10, 13, 32)] :: gw
abbrev b_L_setProduct : ByteArray := method_13_code
def y_L_setProduct : MethodName := ⟨R_L, "setProduct", "(LWeighRecorder;IZ)I"⟩
def w_L_setProduct : List Cond := .codeWith y_L_setProduct b_L_setProduct 4 (some (.int)) [(0, 6, 9, 13)] :: gw
abbrev b_L_cutAfter : ByteArray := method_14_code
def y_L_cutAfter : MethodName := ⟨R_L, "cutAfter", "(LWeighRecorder;I)I"⟩
def w_L_cutAfter : List Cond := .codeWith y_L_cutAfter b_L_cutAfter 3 (some (.int)) [(0, 5, 8, 13)] :: gw
abbrev b_L_failBlock : ByteArray := method_16_code
def y_L_failBlock : MethodName := ⟨R_L, "failBlock", "(LWeighRecorder;I)I"⟩
def w_L_failBlock : List Cond := .codeWith y_L_failBlock b_L_failBlock 3 (some (.int)) [(0, 5, 8, 13)] :: gw
abbrev b_L_poke : ByteArray := method_17_code
def y_L_poke : MethodName := ⟨R_L, "poke", "(LWeighRecorder;III)I"⟩
def w_L_poke : List Cond := .codeWith y_L_poke b_L_poke 5 (some (.int)) [(0, 7, 10, 13)] :: gw
abbrev b_L_ticket : ByteArray := method_7_code
def y_L_ticket : MethodName := ⟨R_L, "ticket", "(LWeighRecorder;II[J)I"⟩
def w_L_ticket : List Cond := .codeWith y_L_ticket b_L_ticket 5 (some (.int)) [(0, 10, 13, 15), (0, 10, 17, 32)] :: gw
theorem t_37 : (.fieldLink R_C 22 R_C "powered" "Z" : Cond) ∈ gw := gw_in (tb_1 (List.mem_of_getElem? (i := 37) rfl)) (by first | rfl | decide +kernel)
theorem t_34 : (.fieldLink R_C 9 R_C "words" "[I" : Cond) ∈ gw := gw_in (tb_1 (List.mem_of_getElem? (i := 34) rfl)) (by first | rfl | decide +kernel)
theorem t_35 : (.fieldLink R_C 15 R_C "wear" "[I" : Cond) ∈ gw := gw_in (tb_1 (List.mem_of_getElem? (i := 35) rfl)) (by first | rfl | decide +kernel)
theorem t_164 : (.methodLink R_C 34 y_C_read : Cond) ∈ gw := gw_in (tb_1 (List.mem_of_getElem? (i := 164) rfl)) (by first | rfl | decide +kernel)
theorem t_167 : (.code y_C_read b_C_read 3 (some (.int)) : Cond) ∈ gw := gw_in (tb_1 (List.mem_of_getElem? (i := 167) rfl)) (by first | rfl | decide +kernel)
theorem t_165 : (.instanceMethod y_C_read : Cond) ∈ gw := gw_in (tb_1 (List.mem_of_getElem? (i := 165) rfl)) (by first | rfl | decide +kernel)
theorem t_166 : (.selects R_C y_C_read y_C_read : Cond) ∈ gw := gw_in (tb_1 (List.mem_of_getElem? (i := 166) rfl)) (by first | rfl | decide +kernel)
theorem t_3 : (.initialized R_C : Cond) ∈ gw := gw_in (tb_1 (List.mem_of_getElem? (i := 3) rfl)) (by first | rfl | decide +kernel)
theorem t_258 : (.methodLink R_C 43 y_C_isFree : Cond) ∈ gw := gw_in (tb_2 (List.mem_of_getElem? (i := 18) rfl)) (by first | rfl | decide +kernel)
theorem t_261 : (.code y_C_isFree b_C_isFree 4 (some (.boolean)) : Cond) ∈ gw := gw_in (tb_2 (List.mem_of_getElem? (i := 21) rfl)) (by first | rfl | decide +kernel)
theorem t_259 : (.instanceMethod y_C_isFree : Cond) ∈ gw := gw_in (tb_2 (List.mem_of_getElem? (i := 19) rfl)) (by first | rfl | decide +kernel)
theorem t_260 : (.selects R_C y_C_isFree y_C_isFree : Cond) ∈ gw := gw_in (tb_2 (List.mem_of_getElem? (i := 20) rfl)) (by first | rfl | decide +kernel)
theorem t_36 : (.fieldLink R_C 18 R_C "failed" "[Z" : Cond) ∈ gw := gw_in (tb_1 (List.mem_of_getElem? (i := 36) rfl)) (by first | rfl | decide +kernel)
theorem t_254 : (.methodLink R_C 47 y_C_freePagesOf : Cond) ∈ gw := gw_in (tb_2 (List.mem_of_getElem? (i := 14) rfl)) (by first | rfl | decide +kernel)
theorem t_257 : (.code y_C_freePagesOf b_C_freePagesOf 4 (some (.int)) : Cond) ∈ gw := gw_in (tb_2 (List.mem_of_getElem? (i := 17) rfl)) (by first | rfl | decide +kernel)
theorem t_255 : (.instanceMethod y_C_freePagesOf : Cond) ∈ gw := gw_in (tb_2 (List.mem_of_getElem? (i := 15) rfl)) (by first | rfl | decide +kernel)
theorem t_256 : (.selects R_C y_C_freePagesOf y_C_freePagesOf : Cond) ∈ gw := gw_in (tb_2 (List.mem_of_getElem? (i := 16) rfl)) (by first | rfl | decide +kernel)
theorem t_38 : (.fieldLink R_C 26 R_C "stepsToCut" "I" : Cond) ∈ gw := gw_in (tb_1 (List.mem_of_getElem? (i := 38) rfl)) (by first | rfl | decide +kernel)
theorem t_87 : (.fieldLink R_G 21 R_G "records" "I" : Cond) ∈ gw := gw_in (tb_1 (List.mem_of_getElem? (i := 87) rfl)) (by first | rfl | decide +kernel)
theorem t_88 : (.fieldLink R_G 25 R_G "tickets" "I" : Cond) ∈ gw := gw_in (tb_1 (List.mem_of_getElem? (i := 88) rfl)) (by first | rfl | decide +kernel)
theorem t_57 : (.fieldLink R_S 32 R_S "durable" "I" : Cond) ∈ gw := gw_in (tb_1 (List.mem_of_getElem? (i := 57) rfl)) (by first | rfl | decide +kernel)
theorem t_56 : (.fieldLink R_S 29 R_S "serial" "I" : Cond) ∈ gw := gw_in (tb_1 (List.mem_of_getElem? (i := 56) rfl)) (by first | rfl | decide +kernel)
theorem t_55 : (.fieldLink R_S 25 R_S "cursor" "I" : Cond) ∈ gw := gw_in (tb_1 (List.mem_of_getElem? (i := 55) rfl)) (by first | rfl | decide +kernel)
theorem t_53 : (.fieldLink R_S 18 R_S "livePages" "[I" : Cond) ∈ gw := gw_in (tb_1 (List.mem_of_getElem? (i := 53) rfl)) (by first | rfl | decide +kernel)
theorem t_238 : (.methodLink R_S 39 y_S_isLive : Cond) ∈ gw := gw_in (tb_1 (List.mem_of_getElem? (i := 238) rfl)) (by first | rfl | decide +kernel)
theorem t_241 : (.code y_S_isLive b_S_isLive 3 (some (.boolean)) : Cond) ∈ gw := gw_in (tb_2 (List.mem_of_getElem? (i := 1) rfl)) (by first | rfl | decide +kernel)
theorem t_240 : (.instanceMethod y_S_isLive : Cond) ∈ gw := gw_in (tb_2 (List.mem_of_getElem? (i := 0) rfl)) (by first | rfl | decide +kernel)
theorem t_2 : (.initialized R_S : Cond) ∈ gw := gw_in (tb_1 (List.mem_of_getElem? (i := 2) rfl)) (by first | rfl | decide +kernel)
theorem t_52 : (.fieldLink R_S 12 R_S "chip" "LWeighRecorder$Chip;" : Cond) ∈ gw := gw_in (tb_1 (List.mem_of_getElem? (i := 52) rfl)) (by first | rfl | decide +kernel)
theorem t_160 : (.methodLink R_S 120 y_C_isRight : Cond) ∈ gw := gw_in (tb_1 (List.mem_of_getElem? (i := 160) rfl)) (by first | rfl | decide +kernel)
theorem t_163 : (.code y_C_isRight b_C_isRight 3 (some (.boolean)) : Cond) ∈ gw := gw_in (tb_1 (List.mem_of_getElem? (i := 163) rfl)) (by first | rfl | decide +kernel)
theorem t_161 : (.instanceMethod y_C_isRight : Cond) ∈ gw := gw_in (tb_1 (List.mem_of_getElem? (i := 161) rfl)) (by first | rfl | decide +kernel)
theorem t_162 : (.selects R_C y_C_isRight y_C_isRight : Cond) ∈ gw := gw_in (tb_1 (List.mem_of_getElem? (i := 162) rfl)) (by first | rfl | decide +kernel)
theorem t_156 : (.methodLink R_S 110 y_S_findNewestPages : Cond) ∈ gw := gw_in (tb_1 (List.mem_of_getElem? (i := 156) rfl)) (by first | rfl | decide +kernel)
theorem t_159 : (.code y_S_findNewestPages b_S_findNewestPages 4 (some (.int)) : Cond) ∈ gw := gw_in (tb_1 (List.mem_of_getElem? (i := 159) rfl)) (by first | rfl | decide +kernel)
theorem t_158 : (.instanceMethod y_S_findNewestPages : Cond) ∈ gw := gw_in (tb_1 (List.mem_of_getElem? (i := 158) rfl)) (by first | rfl | decide +kernel)
theorem t_58 : (.fieldLink R_S 35 R_S "wornOut" "Z" : Cond) ∈ gw := gw_in (tb_1 (List.mem_of_getElem? (i := 58) rfl)) (by first | rfl | decide +kernel)
theorem t_178 : (.methodLink R_S 113 y_G_empty : Cond) ∈ gw := gw_in (tb_1 (List.mem_of_getElem? (i := 178) rfl)) (by first | rfl | decide +kernel)
theorem t_181 : (.code y_G_empty b_G_empty 1 none : Cond) ∈ gw := gw_in (tb_1 (List.mem_of_getElem? (i := 181) rfl)) (by first | rfl | decide +kernel)
theorem t_179 : (.instanceMethod y_G_empty : Cond) ∈ gw := gw_in (tb_1 (List.mem_of_getElem? (i := 179) rfl)) (by first | rfl | decide +kernel)
theorem t_180 : (.selects R_G y_G_empty y_G_empty : Cond) ∈ gw := gw_in (tb_1 (List.mem_of_getElem? (i := 180) rfl)) (by first | rfl | decide +kernel)
theorem t_4 : (.initialized R_G : Cond) ∈ gw := gw_in (tb_1 (List.mem_of_getElem? (i := 4) rfl)) (by first | rfl | decide +kernel)
theorem t_209 : (.methodLink R_S 96 y_G_recordCount : Cond) ∈ gw := gw_in (tb_1 (List.mem_of_getElem? (i := 209) rfl)) (by first | rfl | decide +kernel)
theorem t_212 : (.code y_G_recordCount b_G_recordCount 1 (some (.int)) : Cond) ∈ gw := gw_in (tb_1 (List.mem_of_getElem? (i := 212) rfl)) (by first | rfl | decide +kernel)
theorem t_210 : (.instanceMethod y_G_recordCount : Cond) ∈ gw := gw_in (tb_1 (List.mem_of_getElem? (i := 210) rfl)) (by first | rfl | decide +kernel)
theorem t_211 : (.selects R_G y_G_recordCount y_G_recordCount : Cond) ∈ gw := gw_in (tb_1 (List.mem_of_getElem? (i := 211) rfl)) (by first | rfl | decide +kernel)
theorem t_119 : (.fieldLink R_R 41 R_R "readings" "I" : Cond) ∈ gw := gw_in (tb_1 (List.mem_of_getElem? (i := 119) rfl)) (by first | rfl | decide +kernel)
theorem t_120 : (.fieldLink R_R 45 R_R "readSteps" "I" : Cond) ∈ gw := gw_in (tb_1 (List.mem_of_getElem? (i := 120) rfl)) (by first | rfl | decide +kernel)
theorem t_115 : (.fieldLink R_R 20 R_R "chip" "LWeighRecorder$Chip;" : Cond) ∈ gw := gw_in (tb_1 (List.mem_of_getElem? (i := 115) rfl)) (by first | rfl | decide +kernel)
theorem t_140 : (.methodLink R_R 162 y_C_turnOff : Cond) ∈ gw := gw_in (tb_1 (List.mem_of_getElem? (i := 140) rfl)) (by first | rfl | decide +kernel)
theorem t_143 : (.code y_C_turnOff b_C_turnOff 1 none : Cond) ∈ gw := gw_in (tb_1 (List.mem_of_getElem? (i := 143) rfl)) (by first | rfl | decide +kernel)
theorem t_141 : (.instanceMethod y_C_turnOff : Cond) ∈ gw := gw_in (tb_1 (List.mem_of_getElem? (i := 141) rfl)) (by first | rfl | decide +kernel)
theorem t_142 : (.selects R_C y_C_turnOff y_C_turnOff : Cond) ∈ gw := gw_in (tb_1 (List.mem_of_getElem? (i := 142) rfl)) (by first | rfl | decide +kernel)
theorem t_148 : (.methodLink R_R 78 y_R_forgetReadings : Cond) ∈ gw := gw_in (tb_1 (List.mem_of_getElem? (i := 148) rfl)) (by first | rfl | decide +kernel)
theorem t_151 : (.code y_R_forgetReadings b_R_forgetReadings 1 none : Cond) ∈ gw := gw_in (tb_1 (List.mem_of_getElem? (i := 151) rfl)) (by first | rfl | decide +kernel)
theorem t_150 : (.instanceMethod y_R_forgetReadings : Cond) ∈ gw := gw_in (tb_1 (List.mem_of_getElem? (i := 150) rfl)) (by first | rfl | decide +kernel)
theorem t_1 : (.initialized R_R : Cond) ∈ gw := gw_in (tb_1 (List.mem_of_getElem? (i := 1) rfl)) (by first | rfl | decide +kernel)
theorem t_114 : (.fieldLink R_R 12 R_R "store" "LWeighRecorder$Store;" : Cond) ∈ gw := gw_in (tb_1 (List.mem_of_getElem? (i := 114) rfl)) (by first | rfl | decide +kernel)
theorem t_116 : (.fieldLink R_R 26 R_R "log" "LWeighRecorder$Log;" : Cond) ∈ gw := gw_in (tb_1 (List.mem_of_getElem? (i := 116) rfl)) (by first | rfl | decide +kernel)
theorem t_152 : (.methodLink R_R 165 y_S_restore : Cond) ∈ gw := gw_in (tb_1 (List.mem_of_getElem? (i := 152) rfl)) (by first | rfl | decide +kernel)
theorem t_155 : (.code y_S_restore b_S_restore 5 none : Cond) ∈ gw := gw_in (tb_1 (List.mem_of_getElem? (i := 155) rfl)) (by first | rfl | decide +kernel)
theorem t_153 : (.instanceMethod y_S_restore : Cond) ∈ gw := gw_in (tb_1 (List.mem_of_getElem? (i := 153) rfl)) (by first | rfl | decide +kernel)
theorem t_154 : (.selects R_S y_S_restore y_S_restore : Cond) ∈ gw := gw_in (tb_1 (List.mem_of_getElem? (i := 154) rfl)) (by first | rfl | decide +kernel)
theorem t_213 : (.methodLink R_R 169 y_C_turnOn : Cond) ∈ gw := gw_in (tb_1 (List.mem_of_getElem? (i := 213) rfl)) (by first | rfl | decide +kernel)
theorem t_216 : (.code y_C_turnOn b_C_turnOn 1 none : Cond) ∈ gw := gw_in (tb_1 (List.mem_of_getElem? (i := 216) rfl)) (by first | rfl | decide +kernel)
theorem t_214 : (.instanceMethod y_C_turnOn : Cond) ∈ gw := gw_in (tb_1 (List.mem_of_getElem? (i := 214) rfl)) (by first | rfl | decide +kernel)
theorem t_215 : (.selects R_C y_C_turnOn y_C_turnOn : Cond) ∈ gw := gw_in (tb_1 (List.mem_of_getElem? (i := 215) rfl)) (by first | rfl | decide +kernel)
theorem t_217 : (.methodLink R_R 81 y_G_ticketCount : Cond) ∈ gw := gw_in (tb_1 (List.mem_of_getElem? (i := 217) rfl)) (by first | rfl | decide +kernel)
theorem t_220 : (.code y_G_ticketCount b_G_ticketCount 1 (some (.int)) : Cond) ∈ gw := gw_in (tb_1 (List.mem_of_getElem? (i := 220) rfl)) (by first | rfl | decide +kernel)
theorem t_218 : (.instanceMethod y_G_ticketCount : Cond) ∈ gw := gw_in (tb_1 (List.mem_of_getElem? (i := 218) rfl)) (by first | rfl | decide +kernel)
theorem t_219 : (.selects R_G y_G_ticketCount y_G_ticketCount : Cond) ∈ gw := gw_in (tb_1 (List.mem_of_getElem? (i := 219) rfl)) (by first | rfl | decide +kernel)
theorem t_712 : (.fieldLink R_M 49 R_M "thrown" "I" : Cond) ∈ gw := gw_in (tb_3 (List.mem_of_getElem? (i := 232) rfl)) (by first | rfl | decide +kernel)
theorem t_719 : (.fieldLink R_M 52 R_M "records" "I" : Cond) ∈ gw := gw_in (tb_3 (List.mem_of_getElem? (i := 239) rfl)) (by first | rfl | decide +kernel)
theorem t_723 : (.fieldLink R_M 55 R_M "serial" "I" : Cond) ∈ gw := gw_in (tb_4 (List.mem_of_getElem? (i := 3) rfl)) (by first | rfl | decide +kernel)
theorem t_724 : (.fieldLink R_M 40 R_M "cursor" "I" : Cond) ∈ gw := gw_in (tb_4 (List.mem_of_getElem? (i := 4) rfl)) (by first | rfl | decide +kernel)
theorem t_725 : (.fieldLink R_M 58 R_M "readings" "I" : Cond) ∈ gw := gw_in (tb_4 (List.mem_of_getElem? (i := 5) rfl)) (by first | rfl | decide +kernel)
theorem t_726 : (.fieldLink R_M 61 R_M "weight" "I" : Cond) ∈ gw := gw_in (tb_4 (List.mem_of_getElem? (i := 6) rfl)) (by first | rfl | decide +kernel)
theorem t_727 : (.fieldLink R_M 64 R_M "worn" "Z" : Cond) ∈ gw := gw_in (tb_4 (List.mem_of_getElem? (i := 7) rfl)) (by first | rfl | decide +kernel)
theorem t_718 : (.fieldLink R_M 27 R_M "cut" "I" : Cond) ∈ gw := gw_in (tb_3 (List.mem_of_getElem? (i := 238) rfl)) (by first | rfl | decide +kernel)
theorem t_721 : (.fieldLink R_M 34 R_M "live" "[I" : Cond) ∈ gw := gw_in (tb_4 (List.mem_of_getElem? (i := 1) rfl)) (by first | rfl | decide +kernel)
theorem t_717 : (.fieldLink R_M 23 R_M "on" "Z" : Cond) ∈ gw := gw_in (tb_3 (List.mem_of_getElem? (i := 237) rfl)) (by first | rfl | decide +kernel)
theorem t_708 : (.methodLink R_M 46 y_M_forget : Cond) ∈ gw := gw_in (tb_3 (List.mem_of_getElem? (i := 228) rfl)) (by first | rfl | decide +kernel)
theorem t_711 : (.code y_M_forget b_M_forget 2 none : Cond) ∈ gw := gw_in (tb_3 (List.mem_of_getElem? (i := 231) rfl)) (by first | rfl | decide +kernel)
theorem t_710 : (.instanceMethod y_M_forget : Cond) ∈ gw := gw_in (tb_3 (List.mem_of_getElem? (i := 230) rfl)) (by first | rfl | decide +kernel)
theorem t_6 : (.initialized R_M : Cond) ∈ gw := gw_in (tb_1 (List.mem_of_getElem? (i := 6) rfl)) (by first | rfl | decide +kernel)
theorem t_713 : (.fieldLink R_M 7 R_M "chip" "[I" : Cond) ∈ gw := gw_in (tb_3 (List.mem_of_getElem? (i := 233) rfl)) (by first | rfl | decide +kernel)
theorem t_820 : (.methodLink R_M 80 y_M_isFree : Cond) ∈ gw := gw_in (tb_4 (List.mem_of_getElem? (i := 100) rfl)) (by first | rfl | decide +kernel)
theorem t_823 : (.code y_M_isFree b_M_isFree 4 (some (.boolean)) : Cond) ∈ gw := gw_in (tb_4 (List.mem_of_getElem? (i := 103) rfl)) (by first | rfl | decide +kernel)
theorem t_822 : (.instanceMethod y_M_isFree : Cond) ∈ gw := gw_in (tb_4 (List.mem_of_getElem? (i := 102) rfl)) (by first | rfl | decide +kernel)
theorem t_715 : (.fieldLink R_M 16 R_M "failed" "[Z" : Cond) ∈ gw := gw_in (tb_3 (List.mem_of_getElem? (i := 235) rfl)) (by first | rfl | decide +kernel)
theorem t_927 : (.methodLink R_M 163 y_M_isRight : Cond) ∈ gw := gw_in (tb_4 (List.mem_of_getElem? (i := 207) rfl)) (by first | rfl | decide +kernel)
theorem t_930 : (.code y_M_isRight b_M_isRight 3 (some (.boolean)) : Cond) ∈ gw := gw_in (tb_4 (List.mem_of_getElem? (i := 210) rfl)) (by first | rfl | decide +kernel)
theorem t_929 : (.instanceMethod y_M_isRight : Cond) ∈ gw := gw_in (tb_4 (List.mem_of_getElem? (i := 209) rfl)) (by first | rfl | decide +kernel)
theorem t_781 : (.methodLink R_M 130 y_M_isIn : Cond) ∈ gw := gw_in (tb_4 (List.mem_of_getElem? (i := 61) rfl)) (by first | rfl | decide +kernel)
theorem t_783 : (.code y_M_isIn b_M_isIn 3 (some (.boolean)) : Cond) ∈ gw := gw_in (tb_4 (List.mem_of_getElem? (i := 63) rfl)) (by first | rfl | decide +kernel)
theorem t_782 : (.static y_M_isIn : Cond) ∈ gw := gw_in (tb_4 (List.mem_of_getElem? (i := 62) rfl)) (by first | rfl | decide +kernel)
theorem t_784 : (.methodLink R_M 137 y_M_fails : Cond) ∈ gw := gw_in (tb_4 (List.mem_of_getElem? (i := 64) rfl)) (by first | rfl | decide +kernel)
theorem t_787 : (.code y_M_fails b_M_fails 3 (some (.boolean)) : Cond) ∈ gw := gw_in (tb_4 (List.mem_of_getElem? (i := 67) rfl)) (by first | rfl | decide +kernel)
theorem t_786 : (.instanceMethod y_M_fails : Cond) ∈ gw := gw_in (tb_4 (List.mem_of_getElem? (i := 66) rfl)) (by first | rfl | decide +kernel)
theorem t_792 : (.constant R_M 141 216000 : Cond) ∈ gw := gw_in (tb_4 (List.mem_of_getElem? (i := 72) rfl)) (by first | rfl | decide +kernel)
theorem t_793 : (.constant R_M 142 67108863 : Cond) ∈ gw := gw_in (tb_4 (List.mem_of_getElem? (i := 73) rfl)) (by first | rfl | decide +kernel)
theorem t_881 : (.methodLink R_M 127 y_M_placeOf : Cond) ∈ gw := gw_in (tb_4 (List.mem_of_getElem? (i := 161) rfl)) (by first | rfl | decide +kernel)
theorem t_884 : (.code y_M_placeOf b_M_placeOf 4 (some (.int)) : Cond) ∈ gw := gw_in (tb_4 (List.mem_of_getElem? (i := 164) rfl)) (by first | rfl | decide +kernel)
theorem t_883 : (.instanceMethod y_M_placeOf : Cond) ∈ gw := gw_in (tb_4 (List.mem_of_getElem? (i := 163) rfl)) (by first | rfl | decide +kernel)
theorem t_894 : (.methodLink R_M 156 y_M_durable : Cond) ∈ gw := gw_in (tb_4 (List.mem_of_getElem? (i := 174) rfl)) (by first | rfl | decide +kernel)
theorem t_897 : (.code y_M_durable b_M_durable 3 (some (.int)) : Cond) ∈ gw := gw_in (tb_4 (List.mem_of_getElem? (i := 177) rfl)) (by first | rfl | decide +kernel)
theorem t_896 : (.instanceMethod y_M_durable : Cond) ∈ gw := gw_in (tb_4 (List.mem_of_getElem? (i := 176) rfl)) (by first | rfl | decide +kernel)
theorem t_865 : (.methodLink R_M 149 y_M_tickets : Cond) ∈ gw := gw_in (tb_4 (List.mem_of_getElem? (i := 145) rfl)) (by first | rfl | decide +kernel)
theorem t_868 : (.code y_M_tickets b_M_tickets 3 (some (.int)) : Cond) ∈ gw := gw_in (tb_4 (List.mem_of_getElem? (i := 148) rfl)) (by first | rfl | decide +kernel)
theorem t_867 : (.instanceMethod y_M_tickets : Cond) ∈ gw := gw_in (tb_4 (List.mem_of_getElem? (i := 147) rfl)) (by first | rfl | decide +kernel)
theorem t_729 : (.fieldLink R_M 172 R_M "place" "I" : Cond) ∈ gw := gw_in (tb_4 (List.mem_of_getElem? (i := 9) rfl)) (by first | rfl | decide +kernel)
theorem t_730 : (.fieldLink R_M 175 R_M "sought" "I" : Cond) ∈ gw := gw_in (tb_4 (List.mem_of_getElem? (i := 10) rfl)) (by first | rfl | decide +kernel)
theorem t_731 : (.fieldLink R_M 178 R_M "found" "I" : Cond) ∈ gw := gw_in (tb_4 (List.mem_of_getElem? (i := 11) rfl)) (by first | rfl | decide +kernel)
theorem t_716 : (.fieldLink R_M 20 R_M "active" "[Z" : Cond) ∈ gw := gw_in (tb_3 (List.mem_of_getElem? (i := 236) rfl)) (by first | rfl | decide +kernel)
theorem t_853 : (.methodLink R_M 72 y_M_off : Cond) ∈ gw := gw_in (tb_4 (List.mem_of_getElem? (i := 133) rfl)) (by first | rfl | decide +kernel)
theorem t_856 : (.code y_M_off b_M_off 1 none : Cond) ∈ gw := gw_in (tb_4 (List.mem_of_getElem? (i := 136) rfl)) (by first | rfl | decide +kernel)
theorem t_855 : (.instanceMethod y_M_off : Cond) ∈ gw := gw_in (tb_4 (List.mem_of_getElem? (i := 135) rfl)) (by first | rfl | decide +kernel)
theorem t_966 : (.methodLink R_M 195 y_M_latest : Cond) ∈ gw := gw_in (tb_5 (List.mem_of_getElem? (i := 6) rfl)) (by first | rfl | decide +kernel)
theorem t_969 : (.code y_M_latest b_M_latest 4 (some (.int)) : Cond) ∈ gw := gw_in (tb_5 (List.mem_of_getElem? (i := 9) rfl)) (by first | rfl | decide +kernel)
theorem t_968 : (.instanceMethod y_M_latest : Cond) ∈ gw := gw_in (tb_5 (List.mem_of_getElem? (i := 8) rfl)) (by first | rfl | decide +kernel)
theorem t_714 : (.fieldLink R_M 13 R_M "wear" "[I" : Cond) ∈ gw := gw_in (tb_3 (List.mem_of_getElem? (i := 234) rfl)) (by first | rfl | decide +kernel)
theorem t_990 : (.methodLink R_M 198 y_M_liveCount : Cond) ∈ gw := gw_in (tb_5 (List.mem_of_getElem? (i := 30) rfl)) (by first | rfl | decide +kernel)
theorem t_993 : (.code y_M_liveCount b_M_liveCount 3 (some (.int)) : Cond) ∈ gw := gw_in (tb_5 (List.mem_of_getElem? (i := 33) rfl)) (by first | rfl | decide +kernel)
theorem t_992 : (.instanceMethod y_M_liveCount : Cond) ∈ gw := gw_in (tb_5 (List.mem_of_getElem? (i := 32) rfl)) (by first | rfl | decide +kernel)
theorem t_994 : (.methodLink R_M 201 y_M_freePages : Cond) ∈ gw := gw_in (tb_5 (List.mem_of_getElem? (i := 34) rfl)) (by first | rfl | decide +kernel)
theorem t_997 : (.code y_M_freePages b_M_freePages 3 (some (.int)) : Cond) ∈ gw := gw_in (tb_5 (List.mem_of_getElem? (i := 37) rfl)) (by first | rfl | decide +kernel)
theorem t_996 : (.instanceMethod y_M_freePages : Cond) ∈ gw := gw_in (tb_5 (List.mem_of_getElem? (i := 36) rfl)) (by first | rfl | decide +kernel)
theorem t_275 : (.classLink R_R 210 E_A : Cond) ∈ gw := gw_in (tb_2 (List.mem_of_getElem? (i := 35) rfl)) (by first | rfl | decide +kernel)
theorem t_10 : (.initialized E_A : Cond) ∈ gw := gw_in (tb_1 (List.mem_of_getElem? (i := 10) rfl)) (by first | rfl | decide +kernel)
theorem t_341 : (.classLink R_R 213 E_S : Cond) ∈ gw := gw_in (tb_2 (List.mem_of_getElem? (i := 101) rfl)) (by first | rfl | decide +kernel)
theorem t_11 : (.initialized E_S : Cond) ∈ gw := gw_in (tb_1 (List.mem_of_getElem? (i := 11) rfl)) (by first | rfl | decide +kernel)
theorem t_494 : (.classLink R_R 216 E_I : Cond) ∈ gw := gw_in (tb_3 (List.mem_of_getElem? (i := 14) rfl)) (by first | rfl | decide +kernel)
theorem t_12 : (.initialized E_I : Cond) ∈ gw := gw_in (tb_1 (List.mem_of_getElem? (i := 12) rfl)) (by first | rfl | decide +kernel)
theorem t_271 : (.methodLink R_R 48 y_R_isWithin : Cond) ∈ gw := gw_in (tb_2 (List.mem_of_getElem? (i := 31) rfl)) (by first | rfl | decide +kernel)
theorem t_208 : (.code y_R_isWithin b_R_isWithin 3 (some (.boolean)) : Cond) ∈ gw := gw_in (tb_1 (List.mem_of_getElem? (i := 208) rfl)) (by first | rfl | decide +kernel)
theorem t_207 : (.static y_R_isWithin : Cond) ∈ gw := gw_in (tb_1 (List.mem_of_getElem? (i := 207) rfl)) (by first | rfl | decide +kernel)
theorem t_272 : (.methodLink R_R 52 y_R_requireArgument : Cond) ∈ gw := gw_in (tb_2 (List.mem_of_getElem? (i := 32) rfl)) (by first | rfl | decide +kernel)
theorem t_274 : (.code y_R_requireArgument b_R_requireArgument 1 none : Cond) ∈ gw := gw_in (tb_2 (List.mem_of_getElem? (i := 34) rfl)) (by first | rfl | decide +kernel)
theorem t_273 : (.static y_R_requireArgument : Cond) ∈ gw := gw_in (tb_2 (List.mem_of_getElem? (i := 33) rfl)) (by first | rfl | decide +kernel)
theorem t_225 : (.methodLink R_R 56 y_C_isPowered : Cond) ∈ gw := gw_in (tb_1 (List.mem_of_getElem? (i := 225) rfl)) (by first | rfl | decide +kernel)
theorem t_228 : (.code y_C_isPowered b_C_isPowered 1 (some (.boolean)) : Cond) ∈ gw := gw_in (tb_1 (List.mem_of_getElem? (i := 228) rfl)) (by first | rfl | decide +kernel)
theorem t_226 : (.instanceMethod y_C_isPowered : Cond) ∈ gw := gw_in (tb_1 (List.mem_of_getElem? (i := 226) rfl)) (by first | rfl | decide +kernel)
theorem t_227 : (.selects R_C y_C_isPowered y_C_isPowered : Cond) ∈ gw := gw_in (tb_1 (List.mem_of_getElem? (i := 227) rfl)) (by first | rfl | decide +kernel)
theorem t_338 : (.methodLink R_R 62 y_R_requireState : Cond) ∈ gw := gw_in (tb_2 (List.mem_of_getElem? (i := 98) rfl)) (by first | rfl | decide +kernel)
theorem t_340 : (.code y_R_requireState b_R_requireState 1 none : Cond) ∈ gw := gw_in (tb_2 (List.mem_of_getElem? (i := 100) rfl)) (by first | rfl | decide +kernel)
theorem t_339 : (.static y_R_requireState : Cond) ∈ gw := gw_in (tb_2 (List.mem_of_getElem? (i := 99) rfl)) (by first | rfl | decide +kernel)
theorem t_363 : (.constant R_R 65 216000 : Cond) ∈ gw := gw_in (tb_2 (List.mem_of_getElem? (i := 123) rfl)) (by first | rfl | decide +kernel)
theorem t_364 : (.methodLink R_R 66 y_R_isProduct : Cond) ∈ gw := gw_in (tb_2 (List.mem_of_getElem? (i := 124) rfl)) (by first | rfl | decide +kernel)
theorem t_366 : (.code y_R_isProduct b_R_isProduct 1 (some (.boolean)) : Cond) ∈ gw := gw_in (tb_2 (List.mem_of_getElem? (i := 126) rfl)) (by first | rfl | decide +kernel)
theorem t_365 : (.static y_R_isProduct : Cond) ∈ gw := gw_in (tb_2 (List.mem_of_getElem? (i := 125) rfl)) (by first | rfl | decide +kernel)
theorem t_367 : (.constant R_R 70 67108863 : Cond) ∈ gw := gw_in (tb_2 (List.mem_of_getElem? (i := 127) rfl)) (by first | rfl | decide +kernel)
theorem t_473 : (.methodLink R_R 85 y_G_hasTicket : Cond) ∈ gw := gw_in (tb_2 (List.mem_of_getElem? (i := 233) rfl)) (by first | rfl | decide +kernel)
theorem t_201 : (.code y_G_hasTicket b_G_hasTicket 2 (some (.boolean)) : Cond) ∈ gw := gw_in (tb_1 (List.mem_of_getElem? (i := 201) rfl)) (by first | rfl | decide +kernel)
theorem t_199 : (.instanceMethod y_G_hasTicket : Cond) ∈ gw := gw_in (tb_1 (List.mem_of_getElem? (i := 199) rfl)) (by first | rfl | decide +kernel)
theorem t_200 : (.selects R_G y_G_hasTicket y_G_hasTicket : Cond) ∈ gw := gw_in (tb_1 (List.mem_of_getElem? (i := 200) rfl)) (by first | rfl | decide +kernel)
theorem t_230 : (.methodLink R_R 92 y_S_durableCount : Cond) ∈ gw := gw_in (tb_1 (List.mem_of_getElem? (i := 230) rfl)) (by first | rfl | decide +kernel)
theorem t_233 : (.code y_S_durableCount b_S_durableCount 1 (some (.int)) : Cond) ∈ gw := gw_in (tb_1 (List.mem_of_getElem? (i := 233) rfl)) (by first | rfl | decide +kernel)
theorem t_231 : (.instanceMethod y_S_durableCount : Cond) ∈ gw := gw_in (tb_1 (List.mem_of_getElem? (i := 231) rfl)) (by first | rfl | decide +kernel)
theorem t_232 : (.selects R_S y_S_durableCount y_S_durableCount : Cond) ∈ gw := gw_in (tb_1 (List.mem_of_getElem? (i := 232) rfl)) (by first | rfl | decide +kernel)
theorem t_229 : (.methodLink R_R 95 y_G_recordCount : Cond) ∈ gw := gw_in (tb_1 (List.mem_of_getElem? (i := 229) rfl)) (by first | rfl | decide +kernel)
theorem t_567 : (.methodLink R_R 133 Lib.Math.min.name : Cond) ∈ gw := gw_in (tb_3 (List.mem_of_getElem? (i := 87) rfl)) (by first | rfl | decide +kernel)
theorem t_568 : (.static Lib.Math.min.name : Cond) ∈ gw := gw_in (tb_3 (List.mem_of_getElem? (i := 88) rfl)) (by first | rfl | decide +kernel)
theorem t_13 : (.initialized "java/lang/Math" : Cond) ∈ gw := gw_in (tb_1 (List.mem_of_getElem? (i := 13) rfl)) (by first | rfl | decide +kernel)
theorem t_569 : (.code Lib.Math.min.name Lib.Math.min.code 2 (some .int) : Cond) ∈ gw := gw_in (tb_3 (List.mem_of_getElem? (i := 89) rfl)) (by first | rfl | decide +kernel)
theorem t_570 : (.methodLink R_R 139 Lib.Math.max.name : Cond) ∈ gw := gw_in (tb_3 (List.mem_of_getElem? (i := 90) rfl)) (by first | rfl | decide +kernel)
theorem t_571 : (.static Lib.Math.max.name : Cond) ∈ gw := gw_in (tb_3 (List.mem_of_getElem? (i := 91) rfl)) (by first | rfl | decide +kernel)
theorem t_572 : (.code Lib.Math.max.name Lib.Math.max.code 2 (some .int) : Cond) ∈ gw := gw_in (tb_3 (List.mem_of_getElem? (i := 92) rfl)) (by first | rfl | decide +kernel)
theorem t_118 : (.fieldLink R_R 37 R_R "active" "[Z" : Cond) ∈ gw := gw_in (tb_1 (List.mem_of_getElem? (i := 118) rfl)) (by first | rfl | decide +kernel)
theorem t_654 : (.methodLink R_R 158 y_C_tellCut : Cond) ∈ gw := gw_in (tb_3 (List.mem_of_getElem? (i := 174) rfl)) (by first | rfl | decide +kernel)
theorem t_657 : (.code y_C_tellCut b_C_tellCut 2 none : Cond) ∈ gw := gw_in (tb_3 (List.mem_of_getElem? (i := 177) rfl)) (by first | rfl | decide +kernel)
theorem t_655 : (.instanceMethod y_C_tellCut : Cond) ∈ gw := gw_in (tb_3 (List.mem_of_getElem? (i := 175) rfl)) (by first | rfl | decide +kernel)
theorem t_656 : (.selects R_C y_C_tellCut y_C_tellCut : Cond) ∈ gw := gw_in (tb_3 (List.mem_of_getElem? (i := 176) rfl)) (by first | rfl | decide +kernel)
theorem t_665 : (.methodLink R_R 172 y_C_wearAt : Cond) ∈ gw := gw_in (tb_3 (List.mem_of_getElem? (i := 185) rfl)) (by first | rfl | decide +kernel)
theorem t_668 : (.code y_C_wearAt b_C_wearAt 2 (some (.int)) : Cond) ∈ gw := gw_in (tb_3 (List.mem_of_getElem? (i := 188) rfl)) (by first | rfl | decide +kernel)
theorem t_666 : (.instanceMethod y_C_wearAt : Cond) ∈ gw := gw_in (tb_3 (List.mem_of_getElem? (i := 186) rfl)) (by first | rfl | decide +kernel)
theorem t_667 : (.selects R_C y_C_wearAt y_C_wearAt : Cond) ∈ gw := gw_in (tb_3 (List.mem_of_getElem? (i := 187) rfl)) (by first | rfl | decide +kernel)
theorem t_676 : (.methodLink R_R 175 y_C_markFailed : Cond) ∈ gw := gw_in (tb_3 (List.mem_of_getElem? (i := 196) rfl)) (by first | rfl | decide +kernel)
theorem t_679 : (.code y_C_markFailed b_C_markFailed 2 none : Cond) ∈ gw := gw_in (tb_3 (List.mem_of_getElem? (i := 199) rfl)) (by first | rfl | decide +kernel)
theorem t_677 : (.instanceMethod y_C_markFailed : Cond) ∈ gw := gw_in (tb_3 (List.mem_of_getElem? (i := 197) rfl)) (by first | rfl | decide +kernel)
theorem t_678 : (.selects R_C y_C_markFailed y_C_markFailed : Cond) ∈ gw := gw_in (tb_3 (List.mem_of_getElem? (i := 198) rfl)) (by first | rfl | decide +kernel)
theorem t_687 : (.methodLink R_R 178 y_R_isPlace : Cond) ∈ gw := gw_in (tb_3 (List.mem_of_getElem? (i := 207) rfl)) (by first | rfl | decide +kernel)
theorem t_689 : (.code y_R_isPlace b_R_isPlace 2 (some (.boolean)) : Cond) ∈ gw := gw_in (tb_3 (List.mem_of_getElem? (i := 209) rfl)) (by first | rfl | decide +kernel)
theorem t_688 : (.static y_R_isPlace : Cond) ∈ gw := gw_in (tb_3 (List.mem_of_getElem? (i := 208) rfl)) (by first | rfl | decide +kernel)
theorem t_690 : (.methodLink R_R 182 y_C_flip : Cond) ∈ gw := gw_in (tb_3 (List.mem_of_getElem? (i := 210) rfl)) (by first | rfl | decide +kernel)
theorem t_693 : (.code y_C_flip b_C_flip 4 none : Cond) ∈ gw := gw_in (tb_3 (List.mem_of_getElem? (i := 213) rfl)) (by first | rfl | decide +kernel)
theorem t_691 : (.instanceMethod y_C_flip : Cond) ∈ gw := gw_in (tb_3 (List.mem_of_getElem? (i := 211) rfl)) (by first | rfl | decide +kernel)
theorem t_692 : (.selects R_C y_C_flip y_C_flip : Cond) ∈ gw := gw_in (tb_3 (List.mem_of_getElem? (i := 212) rfl)) (by first | rfl | decide +kernel)
theorem t_491 : (.methodLink R_R 105 y_R_requireIndex : Cond) ∈ gw := gw_in (tb_3 (List.mem_of_getElem? (i := 11) rfl)) (by first | rfl | decide +kernel)
theorem t_493 : (.code y_R_requireIndex b_R_requireIndex 1 none : Cond) ∈ gw := gw_in (tb_3 (List.mem_of_getElem? (i := 13) rfl)) (by first | rfl | decide +kernel)
theorem t_492 : (.static y_R_requireIndex : Cond) ∈ gw := gw_in (tb_3 (List.mem_of_getElem? (i := 12) rfl)) (by first | rfl | decide +kernel)
theorem t_701 : (.methodLink R_R 186 y_C_read : Cond) ∈ gw := gw_in (tb_3 (List.mem_of_getElem? (i := 221) rfl)) (by first | rfl | decide +kernel)
theorem t_234 : (.methodLink R_R 189 y_S_livePageCount : Cond) ∈ gw := gw_in (tb_1 (List.mem_of_getElem? (i := 234) rfl)) (by first | rfl | decide +kernel)
theorem t_237 : (.code y_S_livePageCount b_S_livePageCount 3 (some (.int)) : Cond) ∈ gw := gw_in (tb_1 (List.mem_of_getElem? (i := 237) rfl)) (by first | rfl | decide +kernel)
theorem t_235 : (.instanceMethod y_S_livePageCount : Cond) ∈ gw := gw_in (tb_1 (List.mem_of_getElem? (i := 235) rfl)) (by first | rfl | decide +kernel)
theorem t_236 : (.selects R_S y_S_livePageCount y_S_livePageCount : Cond) ∈ gw := gw_in (tb_1 (List.mem_of_getElem? (i := 236) rfl)) (by first | rfl | decide +kernel)
theorem t_242 : (.methodLink R_R 192 y_S_latestSerial : Cond) ∈ gw := gw_in (tb_2 (List.mem_of_getElem? (i := 2) rfl)) (by first | rfl | decide +kernel)
theorem t_245 : (.code y_S_latestSerial b_S_latestSerial 1 (some (.int)) : Cond) ∈ gw := gw_in (tb_2 (List.mem_of_getElem? (i := 5) rfl)) (by first | rfl | decide +kernel)
theorem t_243 : (.instanceMethod y_S_latestSerial : Cond) ∈ gw := gw_in (tb_2 (List.mem_of_getElem? (i := 3) rfl)) (by first | rfl | decide +kernel)
theorem t_244 : (.selects R_S y_S_latestSerial y_S_latestSerial : Cond) ∈ gw := gw_in (tb_2 (List.mem_of_getElem? (i := 4) rfl)) (by first | rfl | decide +kernel)
theorem t_246 : (.methodLink R_R 195 y_S_cursorBlock : Cond) ∈ gw := gw_in (tb_2 (List.mem_of_getElem? (i := 6) rfl)) (by first | rfl | decide +kernel)
theorem t_249 : (.code y_S_cursorBlock b_S_cursorBlock 1 (some (.int)) : Cond) ∈ gw := gw_in (tb_2 (List.mem_of_getElem? (i := 9) rfl)) (by first | rfl | decide +kernel)
theorem t_247 : (.instanceMethod y_S_cursorBlock : Cond) ∈ gw := gw_in (tb_2 (List.mem_of_getElem? (i := 7) rfl)) (by first | rfl | decide +kernel)
theorem t_248 : (.selects R_S y_S_cursorBlock y_S_cursorBlock : Cond) ∈ gw := gw_in (tb_2 (List.mem_of_getElem? (i := 8) rfl)) (by first | rfl | decide +kernel)
theorem t_250 : (.methodLink R_R 198 y_C_usableFreePages : Cond) ∈ gw := gw_in (tb_2 (List.mem_of_getElem? (i := 10) rfl)) (by first | rfl | decide +kernel)
theorem t_253 : (.code y_C_usableFreePages b_C_usableFreePages 3 (some (.int)) : Cond) ∈ gw := gw_in (tb_2 (List.mem_of_getElem? (i := 13) rfl)) (by first | rfl | decide +kernel)
theorem t_251 : (.instanceMethod y_C_usableFreePages : Cond) ∈ gw := gw_in (tb_2 (List.mem_of_getElem? (i := 11) rfl)) (by first | rfl | decide +kernel)
theorem t_252 : (.selects R_C y_C_usableFreePages y_C_usableFreePages : Cond) ∈ gw := gw_in (tb_2 (List.mem_of_getElem? (i := 12) rfl)) (by first | rfl | decide +kernel)
theorem t_267 : (.methodLink R_L 7 y_R_axle : Cond) ∈ gw := gw_in (tb_2 (List.mem_of_getElem? (i := 27) rfl)) (by first | rfl | decide +kernel)
theorem t_270 : (.code y_R_axle b_R_axle 2 (some (.int)) : Cond) ∈ gw := gw_in (tb_2 (List.mem_of_getElem? (i := 30) rfl)) (by first | rfl | decide +kernel)
theorem t_268 : (.instanceMethod y_R_axle : Cond) ∈ gw := gw_in (tb_2 (List.mem_of_getElem? (i := 28) rfl)) (by first | rfl | decide +kernel)
theorem t_269 : (.selects R_R y_R_axle y_R_axle : Cond) ∈ gw := gw_in (tb_2 (List.mem_of_getElem? (i := 29) rfl)) (by first | rfl | decide +kernel)
theorem t_359 : (.methodLink R_L 17 y_R_close : Cond) ∈ gw := gw_in (tb_2 (List.mem_of_getElem? (i := 119) rfl)) (by first | rfl | decide +kernel)
theorem t_362 : (.code y_R_close b_R_close 6 (some (.int)) : Cond) ∈ gw := gw_in (tb_2 (List.mem_of_getElem? (i := 122) rfl)) (by first | rfl | decide +kernel)
theorem t_360 : (.instanceMethod y_R_close : Cond) ∈ gw := gw_in (tb_2 (List.mem_of_getElem? (i := 120) rfl)) (by first | rfl | decide +kernel)
theorem t_361 : (.selects R_R y_R_close y_R_close : Cond) ∈ gw := gw_in (tb_2 (List.mem_of_getElem? (i := 121) rfl)) (by first | rfl | decide +kernel)
theorem t_469 : (.methodLink R_L 21 y_R_annul : Cond) ∈ gw := gw_in (tb_2 (List.mem_of_getElem? (i := 229) rfl)) (by first | rfl | decide +kernel)
theorem t_472 : (.code y_R_annul b_R_annul 3 (some (.int)) : Cond) ∈ gw := gw_in (tb_2 (List.mem_of_getElem? (i := 232) rfl)) (by first | rfl | decide +kernel)
theorem t_470 : (.instanceMethod y_R_annul : Cond) ∈ gw := gw_in (tb_2 (List.mem_of_getElem? (i := 230) rfl)) (by first | rfl | decide +kernel)
theorem t_471 : (.selects R_R y_R_annul y_R_annul : Cond) ∈ gw := gw_in (tb_2 (List.mem_of_getElem? (i := 231) rfl)) (by first | rfl | decide +kernel)
theorem t_479 : (.methodLink R_L 25 y_R_sync : Cond) ∈ gw := gw_in (tb_2 (List.mem_of_getElem? (i := 239) rfl)) (by first | rfl | decide +kernel)
theorem t_482 : (.code y_R_sync b_R_sync 2 (some (.int)) : Cond) ∈ gw := gw_in (tb_3 (List.mem_of_getElem? (i := 2) rfl)) (by first | rfl | decide +kernel)
theorem t_480 : (.instanceMethod y_R_sync : Cond) ∈ gw := gw_in (tb_3 (List.mem_of_getElem? (i := 0) rfl)) (by first | rfl | decide +kernel)
theorem t_481 : (.selects R_R y_R_sync y_R_sync : Cond) ∈ gw := gw_in (tb_3 (List.mem_of_getElem? (i := 1) rfl)) (by first | rfl | decide +kernel)
theorem t_550 : (.methodLink R_L 34 y_R_dayTotal : Cond) ∈ gw := gw_in (tb_3 (List.mem_of_getElem? (i := 70) rfl)) (by first | rfl | decide +kernel)
theorem t_553 : (.code y_R_dayTotal b_R_dayTotal 7 (some (.long)) : Cond) ∈ gw := gw_in (tb_3 (List.mem_of_getElem? (i := 73) rfl)) (by first | rfl | decide +kernel)
theorem t_551 : (.instanceMethod y_R_dayTotal : Cond) ∈ gw := gw_in (tb_3 (List.mem_of_getElem? (i := 71) rfl)) (by first | rfl | decide +kernel)
theorem t_552 : (.selects R_R y_R_dayTotal y_R_dayTotal : Cond) ∈ gw := gw_in (tb_3 (List.mem_of_getElem? (i := 72) rfl)) (by first | rfl | decide +kernel)
theorem t_563 : (.methodLink R_L 38 y_R_rangeTotal : Cond) ∈ gw := gw_in (tb_3 (List.mem_of_getElem? (i := 83) rfl)) (by first | rfl | decide +kernel)
theorem t_566 : (.code y_R_rangeTotal b_R_rangeTotal 7 (some (.long)) : Cond) ∈ gw := gw_in (tb_3 (List.mem_of_getElem? (i := 86) rfl)) (by first | rfl | decide +kernel)
theorem t_564 : (.instanceMethod y_R_rangeTotal : Cond) ∈ gw := gw_in (tb_3 (List.mem_of_getElem? (i := 84) rfl)) (by first | rfl | decide +kernel)
theorem t_565 : (.selects R_R y_R_rangeTotal y_R_rangeTotal : Cond) ∈ gw := gw_in (tb_3 (List.mem_of_getElem? (i := 85) rfl)) (by first | rfl | decide +kernel)
theorem t_576 : (.methodLink R_L 41 y_R_find : Cond) ∈ gw := gw_in (tb_3 (List.mem_of_getElem? (i := 96) rfl)) (by first | rfl | decide +kernel)
theorem t_579 : (.code y_R_find b_R_find 4 (some (.int)) : Cond) ∈ gw := gw_in (tb_3 (List.mem_of_getElem? (i := 99) rfl)) (by first | rfl | decide +kernel)
theorem t_577 : (.instanceMethod y_R_find : Cond) ∈ gw := gw_in (tb_3 (List.mem_of_getElem? (i := 97) rfl)) (by first | rfl | decide +kernel)
theorem t_578 : (.selects R_R y_R_find y_R_find : Cond) ∈ gw := gw_in (tb_3 (List.mem_of_getElem? (i := 98) rfl)) (by first | rfl | decide +kernel)
theorem t_583 : (.methodLink R_L 44 y_R_audit : Cond) ∈ gw := gw_in (tb_3 (List.mem_of_getElem? (i := 103) rfl)) (by first | rfl | decide +kernel)
theorem t_586 : (.code y_R_audit b_R_audit 5 (some (.int)) : Cond) ∈ gw := gw_in (tb_3 (List.mem_of_getElem? (i := 106) rfl)) (by first | rfl | decide +kernel)
theorem t_584 : (.instanceMethod y_R_audit : Cond) ∈ gw := gw_in (tb_3 (List.mem_of_getElem? (i := 104) rfl)) (by first | rfl | decide +kernel)
theorem t_585 : (.selects R_R y_R_audit y_R_audit : Cond) ∈ gw := gw_in (tb_3 (List.mem_of_getElem? (i := 105) rfl)) (by first | rfl | decide +kernel)
theorem t_607 : (.methodLink R_L 47 y_R_exportByte : Cond) ∈ gw := gw_in (tb_3 (List.mem_of_getElem? (i := 127) rfl)) (by first | rfl | decide +kernel)
theorem t_610 : (.code y_R_exportByte b_R_exportByte 7 (some (.int)) : Cond) ∈ gw := gw_in (tb_3 (List.mem_of_getElem? (i := 130) rfl)) (by first | rfl | decide +kernel)
theorem t_608 : (.instanceMethod y_R_exportByte : Cond) ∈ gw := gw_in (tb_3 (List.mem_of_getElem? (i := 128) rfl)) (by first | rfl | decide +kernel)
theorem t_609 : (.selects R_R y_R_exportByte y_R_exportByte : Cond) ∈ gw := gw_in (tb_3 (List.mem_of_getElem? (i := 129) rfl)) (by first | rfl | decide +kernel)
theorem t_661 : (.methodLink R_L 59 y_R_wearOf : Cond) ∈ gw := gw_in (tb_3 (List.mem_of_getElem? (i := 181) rfl)) (by first | rfl | decide +kernel)
theorem t_664 : (.code y_R_wearOf b_R_wearOf 2 (some (.int)) : Cond) ∈ gw := gw_in (tb_3 (List.mem_of_getElem? (i := 184) rfl)) (by first | rfl | decide +kernel)
theorem t_662 : (.instanceMethod y_R_wearOf : Cond) ∈ gw := gw_in (tb_3 (List.mem_of_getElem? (i := 182) rfl)) (by first | rfl | decide +kernel)
theorem t_663 : (.selects R_R y_R_wearOf y_R_wearOf : Cond) ∈ gw := gw_in (tb_3 (List.mem_of_getElem? (i := 183) rfl)) (by first | rfl | decide +kernel)
theorem t_697 : (.methodLink R_L 69 y_R_word : Cond) ∈ gw := gw_in (tb_3 (List.mem_of_getElem? (i := 217) rfl)) (by first | rfl | decide +kernel)
theorem t_700 : (.code y_R_word b_R_word 3 (some (.int)) : Cond) ∈ gw := gw_in (tb_3 (List.mem_of_getElem? (i := 220) rfl)) (by first | rfl | decide +kernel)
theorem t_698 : (.instanceMethod y_R_word : Cond) ∈ gw := gw_in (tb_3 (List.mem_of_getElem? (i := 218) rfl)) (by first | rfl | decide +kernel)
theorem t_699 : (.selects R_R y_R_word y_R_word : Cond) ∈ gw := gw_in (tb_3 (List.mem_of_getElem? (i := 219) rfl)) (by first | rfl | decide +kernel)
theorem t_643 : (.methodLink R_L 51 y_R_setProduct : Cond) ∈ gw := gw_in (tb_3 (List.mem_of_getElem? (i := 163) rfl)) (by first | rfl | decide +kernel)
theorem t_646 : (.code y_R_setProduct b_R_setProduct 3 none : Cond) ∈ gw := gw_in (tb_3 (List.mem_of_getElem? (i := 166) rfl)) (by first | rfl | decide +kernel)
theorem t_644 : (.instanceMethod y_R_setProduct : Cond) ∈ gw := gw_in (tb_3 (List.mem_of_getElem? (i := 164) rfl)) (by first | rfl | decide +kernel)
theorem t_645 : (.selects R_R y_R_setProduct y_R_setProduct : Cond) ∈ gw := gw_in (tb_3 (List.mem_of_getElem? (i := 165) rfl)) (by first | rfl | decide +kernel)
theorem t_650 : (.methodLink R_L 55 y_R_cutAfter : Cond) ∈ gw := gw_in (tb_3 (List.mem_of_getElem? (i := 170) rfl)) (by first | rfl | decide +kernel)
theorem t_653 : (.code y_R_cutAfter b_R_cutAfter 2 none : Cond) ∈ gw := gw_in (tb_3 (List.mem_of_getElem? (i := 173) rfl)) (by first | rfl | decide +kernel)
theorem t_651 : (.instanceMethod y_R_cutAfter : Cond) ∈ gw := gw_in (tb_3 (List.mem_of_getElem? (i := 171) rfl)) (by first | rfl | decide +kernel)
theorem t_652 : (.selects R_R y_R_cutAfter y_R_cutAfter : Cond) ∈ gw := gw_in (tb_3 (List.mem_of_getElem? (i := 172) rfl)) (by first | rfl | decide +kernel)
theorem t_672 : (.methodLink R_L 62 y_R_failBlock : Cond) ∈ gw := gw_in (tb_3 (List.mem_of_getElem? (i := 192) rfl)) (by first | rfl | decide +kernel)
theorem t_675 : (.code y_R_failBlock b_R_failBlock 2 none : Cond) ∈ gw := gw_in (tb_3 (List.mem_of_getElem? (i := 195) rfl)) (by first | rfl | decide +kernel)
theorem t_673 : (.instanceMethod y_R_failBlock : Cond) ∈ gw := gw_in (tb_3 (List.mem_of_getElem? (i := 193) rfl)) (by first | rfl | decide +kernel)
theorem t_674 : (.selects R_R y_R_failBlock y_R_failBlock : Cond) ∈ gw := gw_in (tb_3 (List.mem_of_getElem? (i := 194) rfl)) (by first | rfl | decide +kernel)
theorem t_683 : (.methodLink R_L 65 y_R_poke : Cond) ∈ gw := gw_in (tb_3 (List.mem_of_getElem? (i := 203) rfl)) (by first | rfl | decide +kernel)
theorem t_686 : (.code y_R_poke b_R_poke 4 none : Cond) ∈ gw := gw_in (tb_3 (List.mem_of_getElem? (i := 206) rfl)) (by first | rfl | decide +kernel)
theorem t_684 : (.instanceMethod y_R_poke : Cond) ∈ gw := gw_in (tb_3 (List.mem_of_getElem? (i := 204) rfl)) (by first | rfl | decide +kernel)
theorem t_685 : (.selects R_R y_R_poke y_R_poke : Cond) ∈ gw := gw_in (tb_3 (List.mem_of_getElem? (i := 205) rfl)) (by first | rfl | decide +kernel)
theorem t_265 : (.classLink R_L 13 E_A : Cond) ∈ gw := gw_in (tb_2 (List.mem_of_getElem? (i := 25) rfl)) (by first | rfl | decide +kernel)
theorem t_487 : (.methodLink R_L 29 y_R_ticket : Cond) ∈ gw := gw_in (tb_3 (List.mem_of_getElem? (i := 7) rfl)) (by first | rfl | decide +kernel)
theorem t_488 : (.instanceMethod y_R_ticket : Cond) ∈ gw := gw_in (tb_3 (List.mem_of_getElem? (i := 8) rfl)) (by first | rfl | decide +kernel)
theorem t_489 : (.selects R_R y_R_ticket y_R_ticket : Cond) ∈ gw := gw_in (tb_3 (List.mem_of_getElem? (i := 9) rfl)) (by first | rfl | decide +kernel)
theorem t_490 : (.code y_R_ticket b_R_ticket 3 (some (.int)) : Cond) ∈ gw := gw_in (tb_3 (List.mem_of_getElem? (i := 10) rfl)) (by first | rfl | decide +kernel)
theorem t_266 : (.classLink R_L 15 E_S : Cond) ∈ gw := gw_in (tb_2 (List.mem_of_getElem? (i := 26) rfl)) (by first | rfl | decide +kernel)
theorem t_486 : (.classLink R_L 32 E_I : Cond) ∈ gw := gw_in (tb_3 (List.mem_of_getElem? (i := 6) rfl)) (by first | rfl | decide +kernel)
theorem s_5 : (.selects R_S y_S_isLive y_S_isLive : Cond) ∈ gw := gw_in (tb_s (q := (⟨"WeighRecorder$Store", "isLive", "(I)Z"⟩, _)) (List.mem_of_getElem? (i := 5) rfl)) (by first | rfl | decide +kernel)
theorem s_1 : (.selects R_S y_S_findNewestPages y_S_findNewestPages : Cond) ∈ gw := gw_in (tb_s (q := (⟨"WeighRecorder$Store", "findNewestPages", "()I"⟩, _)) (List.mem_of_getElem? (i := 1) rfl)) (by first | rfl | decide +kernel)
theorem s_0 : (.selects R_R y_R_forgetReadings y_R_forgetReadings : Cond) ∈ gw := gw_in (tb_s (q := (⟨"WeighRecorder", "forgetReadings", "()V"⟩, _)) (List.mem_of_getElem? (i := 0) rfl)) (by first | rfl | decide +kernel)
theorem s_21 : (.selects R_M y_M_forget y_M_forget : Cond) ∈ gw := gw_in (tb_s (q := (⟨"WeighRecorderModel", "forget", "()V"⟩, _)) (List.mem_of_getElem? (i := 21) rfl)) (by first | rfl | decide +kernel)
theorem s_28 : (.selects R_M y_M_isFree y_M_isFree : Cond) ∈ gw := gw_in (tb_s (q := (⟨"WeighRecorderModel", "isFree", "(I)Z"⟩, _)) (List.mem_of_getElem? (i := 28) rfl)) (by first | rfl | decide +kernel)
theorem s_47 : (.selects R_M y_M_isRight y_M_isRight : Cond) ∈ gw := gw_in (tb_s (q := (⟨"WeighRecorderModel", "isRight", "(I)Z"⟩, _)) (List.mem_of_getElem? (i := 47) rfl)) (by first | rfl | decide +kernel)
theorem s_22 : (.selects R_M y_M_fails y_M_fails : Cond) ∈ gw := gw_in (tb_s (q := (⟨"WeighRecorderModel", "fails", "(IZ)Z"⟩, _)) (List.mem_of_getElem? (i := 22) rfl)) (by first | rfl | decide +kernel)
theorem s_42 : (.selects R_M y_M_placeOf y_M_placeOf : Cond) ∈ gw := gw_in (tb_s (q := (⟨"WeighRecorderModel", "placeOf", "(I)I"⟩, _)) (List.mem_of_getElem? (i := 42) rfl)) (by first | rfl | decide +kernel)
theorem s_44 : (.selects R_M y_M_durable y_M_durable : Cond) ∈ gw := gw_in (tb_s (q := (⟨"WeighRecorderModel", "durable", "()I"⟩, _)) (List.mem_of_getElem? (i := 44) rfl)) (by first | rfl | decide +kernel)
theorem s_39 : (.selects R_M y_M_tickets y_M_tickets : Cond) ∈ gw := gw_in (tb_s (q := (⟨"WeighRecorderModel", "tickets", "()I"⟩, _)) (List.mem_of_getElem? (i := 39) rfl)) (by first | rfl | decide +kernel)
theorem s_36 : (.selects R_M y_M_off y_M_off : Cond) ∈ gw := gw_in (tb_s (q := (⟨"WeighRecorderModel", "off", "()V"⟩, _)) (List.mem_of_getElem? (i := 36) rfl)) (by first | rfl | decide +kernel)
theorem s_51 : (.selects R_M y_M_latest y_M_latest : Cond) ∈ gw := gw_in (tb_s (q := (⟨"WeighRecorderModel", "latest", "(I)I"⟩, _)) (List.mem_of_getElem? (i := 51) rfl)) (by first | rfl | decide +kernel)
theorem s_52 : (.selects R_M y_M_liveCount y_M_liveCount : Cond) ∈ gw := gw_in (tb_s (q := (⟨"WeighRecorderModel", "liveCount", "()I"⟩, _)) (List.mem_of_getElem? (i := 52) rfl)) (by first | rfl | decide +kernel)
theorem s_53 : (.selects R_M y_M_freePages y_M_freePages : Cond) ∈ gw := gw_in (tb_s (q := (⟨"WeighRecorderModel", "freePages", "()I"⟩, _)) (List.mem_of_getElem? (i := 53) rfl)) (by first | rfl | decide +kernel)
theorem d_C_isPowered_0 : decode b_C_isPowered 0 = .ok (.aload_n 0, 1) := by decide +kernel
theorem d_C_isPowered_1 : decode b_C_isPowered 1 = .ok (.getfield 22, 3) := by decide +kernel
theorem d_C_isPowered_4 : decode b_C_isPowered 4 = .ok (.ireturn, 1) := by decide +kernel
theorem d_C_read_0 : decode b_C_read 0 = .ok (.aload_n 0, 1) := by decide +kernel
theorem d_C_read_1 : decode b_C_read 1 = .ok (.getfield 9, 3) := by decide +kernel
theorem d_C_read_4 : decode b_C_read 4 = .ok (.iload_n 1, 1) := by decide +kernel
theorem d_C_read_5 : decode b_C_read 5 = .ok (.bipush 16, 2) := by decide +kernel
theorem d_C_read_7 : decode b_C_read 7 = .ok (.imul, 1) := by decide +kernel
theorem d_C_read_8 : decode b_C_read 8 = .ok (.iload_n 2, 1) := by decide +kernel
theorem d_C_read_9 : decode b_C_read 9 = .ok (.iadd, 1) := by decide +kernel
theorem d_C_read_10 : decode b_C_read 10 = .ok (.iaload, 1) := by decide +kernel
theorem d_C_read_11 : decode b_C_read 11 = .ok (.ireturn, 1) := by decide +kernel
theorem d_C_wearAt_0 : decode b_C_wearAt 0 = .ok (.aload_n 0, 1) := by decide +kernel
theorem d_C_wearAt_1 : decode b_C_wearAt 1 = .ok (.getfield 15, 3) := by decide +kernel
theorem d_C_wearAt_4 : decode b_C_wearAt 4 = .ok (.iload_n 1, 1) := by decide +kernel
theorem d_C_wearAt_5 : decode b_C_wearAt 5 = .ok (.iaload, 1) := by decide +kernel
theorem d_C_wearAt_6 : decode b_C_wearAt 6 = .ok (.ireturn, 1) := by decide +kernel
theorem d_C_isFree_0 : decode b_C_isFree 0 = .ok (.iload_n 1, 1) := by decide +kernel
theorem d_C_isFree_1 : decode b_C_isFree 1 = .ok (.bipush 16, 2) := by decide +kernel
theorem d_C_isFree_3 : decode b_C_isFree 3 = .ok (.imul, 1) := by decide +kernel
theorem d_C_isFree_4 : decode b_C_isFree 4 = .ok (.istore_n 2, 1) := by decide +kernel
theorem d_C_isFree_5 : decode b_C_isFree 5 = .ok (.iload_n 2, 1) := by decide +kernel
theorem d_C_isFree_6 : decode b_C_isFree 6 = .ok (.istore_n 3, 1) := by decide +kernel
theorem d_C_isFree_7 : decode b_C_isFree 7 = .ok (.iload_n 3, 1) := by decide +kernel
theorem d_C_isFree_8 : decode b_C_isFree 8 = .ok (.iload_n 2, 1) := by decide +kernel
theorem d_C_isFree_9 : decode b_C_isFree 9 = .ok (.bipush 16, 2) := by decide +kernel
theorem d_C_isFree_11 : decode b_C_isFree 11 = .ok (.iadd, 1) := by decide +kernel
theorem d_C_isFree_12 : decode b_C_isFree 12 = .ok (.if_icmp .ge (21), 3) := by decide +kernel
theorem d_C_isFree_15 : decode b_C_isFree 15 = .ok (.aload_n 0, 1) := by decide +kernel
theorem d_C_isFree_16 : decode b_C_isFree 16 = .ok (.getfield 9, 3) := by decide +kernel
theorem d_C_isFree_19 : decode b_C_isFree 19 = .ok (.iload_n 3, 1) := by decide +kernel
theorem d_C_isFree_20 : decode b_C_isFree 20 = .ok (.iaload, 1) := by decide +kernel
theorem d_C_isFree_21 : decode b_C_isFree 21 = .ok (.iconst (-1), 1) := by decide +kernel
theorem d_C_isFree_22 : decode b_C_isFree 22 = .ok (.if_icmp .eq (5), 3) := by decide +kernel
theorem d_C_isFree_25 : decode b_C_isFree 25 = .ok (.iconst 0, 1) := by decide +kernel
theorem d_C_isFree_26 : decode b_C_isFree 26 = .ok (.ireturn, 1) := by decide +kernel
theorem d_C_isFree_27 : decode b_C_isFree 27 = .ok (.iinc 3 1, 3) := by decide +kernel
theorem d_C_isFree_30 : decode b_C_isFree 30 = .ok (.goto (-23), 3) := by decide +kernel
theorem d_C_isFree_33 : decode b_C_isFree 33 = .ok (.iconst 1, 1) := by decide +kernel
theorem d_C_isFree_34 : decode b_C_isFree 34 = .ok (.ireturn, 1) := by decide +kernel
theorem d_C_isRight_0 : decode b_C_isRight 0 = .ok (.aload_n 0, 1) := by decide +kernel
theorem d_C_isRight_1 : decode b_C_isRight 1 = .ok (.iload_n 1, 1) := by decide +kernel
theorem d_C_isRight_2 : decode b_C_isRight 2 = .ok (.iconst 0, 1) := by decide +kernel
theorem d_C_isRight_3 : decode b_C_isRight 3 = .ok (.invokevirtual 34, 3) := by decide +kernel
theorem d_C_isRight_6 : decode b_C_isRight 6 = .ok (.istore_n 2, 1) := by decide +kernel
theorem d_C_isRight_7 : decode b_C_isRight 7 = .ok (.iload_n 2, 1) := by decide +kernel
theorem d_C_isRight_8 : decode b_C_isRight 8 = .ok (.ifCond .le (54), 3) := by decide +kernel
theorem d_C_isRight_11 : decode b_C_isRight 11 = .ok (.iload_n 2, 1) := by decide +kernel
theorem d_C_isRight_12 : decode b_C_isRight 12 = .ok (.bipush 64, 2) := by decide +kernel
theorem d_C_isRight_14 : decode b_C_isRight 14 = .ok (.if_icmp .ge (48), 3) := by decide +kernel
theorem d_C_isRight_17 : decode b_C_isRight 17 = .ok (.iload_n 2, 1) := by decide +kernel
theorem d_C_isRight_18 : decode b_C_isRight 18 = .ok (.iconst 4, 1) := by decide +kernel
theorem d_C_isRight_19 : decode b_C_isRight 19 = .ok (.irem, 1) := by decide +kernel
theorem d_C_isRight_20 : decode b_C_isRight 20 = .ok (.ifCond .eq (42), 3) := by decide +kernel
theorem d_C_isRight_23 : decode b_C_isRight 23 = .ok (.aload_n 0, 1) := by decide +kernel
theorem d_C_isRight_24 : decode b_C_isRight 24 = .ok (.iload_n 1, 1) := by decide +kernel
theorem d_C_isRight_25 : decode b_C_isRight 25 = .ok (.bipush 15, 2) := by decide +kernel
theorem d_C_isRight_27 : decode b_C_isRight 27 = .ok (.invokevirtual 34, 3) := by decide +kernel
theorem d_C_isRight_30 : decode b_C_isRight 30 = .ok (.ldc 38, 2) := by decide +kernel
theorem d_C_isRight_32 : decode b_C_isRight 32 = .ok (.if_icmp .ne (30), 3) := by decide +kernel
theorem d_C_isRight_35 : decode b_C_isRight 35 = .ok (.aload_n 0, 1) := by decide +kernel
theorem d_C_isRight_36 : decode b_C_isRight 36 = .ok (.iload_n 1, 1) := by decide +kernel
theorem d_C_isRight_37 : decode b_C_isRight 37 = .ok (.bipush 14, 2) := by decide +kernel
theorem d_C_isRight_39 : decode b_C_isRight 39 = .ok (.invokevirtual 34, 3) := by decide +kernel
theorem d_C_isRight_42 : decode b_C_isRight 42 = .ok (.aload_n 0, 1) := by decide +kernel
theorem d_C_isRight_43 : decode b_C_isRight 43 = .ok (.getfield 9, 3) := by decide +kernel
theorem d_C_isRight_46 : decode b_C_isRight 46 = .ok (.iload_n 1, 1) := by decide +kernel
theorem d_C_isRight_47 : decode b_C_isRight 47 = .ok (.bipush 16, 2) := by decide +kernel
theorem d_C_isRight_49 : decode b_C_isRight 49 = .ok (.imul, 1) := by decide +kernel
theorem d_C_isRight_50 : decode b_C_isRight 50 = .ok (.bipush 14, 2) := by decide +kernel
theorem d_C_isRight_52 : decode b_C_isRight 52 = .ok (.invokestatic 39, 3) := by decide +kernel
theorem d_C_isRight_55 : decode b_C_isRight 55 = .ok (.if_icmp .ne (7), 3) := by decide +kernel
theorem d_C_isRight_58 : decode b_C_isRight 58 = .ok (.iconst 1, 1) := by decide +kernel
theorem d_C_isRight_59 : decode b_C_isRight 59 = .ok (.goto (4), 3) := by decide +kernel
theorem d_C_isRight_62 : decode b_C_isRight 62 = .ok (.iconst 0, 1) := by decide +kernel
theorem d_C_isRight_63 : decode b_C_isRight 63 = .ok (.ireturn, 1) := by decide +kernel
theorem d_C_freePagesOf_0 : decode b_C_freePagesOf 0 = .ok (.iconst 0, 1) := by decide +kernel
theorem d_C_freePagesOf_1 : decode b_C_freePagesOf 1 = .ok (.istore_n 2, 1) := by decide +kernel
theorem d_C_freePagesOf_2 : decode b_C_freePagesOf 2 = .ok (.iload_n 1, 1) := by decide +kernel
theorem d_C_freePagesOf_3 : decode b_C_freePagesOf 3 = .ok (.iconst 4, 1) := by decide +kernel
theorem d_C_freePagesOf_4 : decode b_C_freePagesOf 4 = .ok (.imul, 1) := by decide +kernel
theorem d_C_freePagesOf_5 : decode b_C_freePagesOf 5 = .ok (.istore_n 3, 1) := by decide +kernel
theorem d_C_freePagesOf_6 : decode b_C_freePagesOf 6 = .ok (.iload_n 3, 1) := by decide +kernel
theorem d_C_freePagesOf_7 : decode b_C_freePagesOf 7 = .ok (.iload_n 1, 1) := by decide +kernel
theorem d_C_freePagesOf_8 : decode b_C_freePagesOf 8 = .ok (.iconst 1, 1) := by decide +kernel
theorem d_C_freePagesOf_9 : decode b_C_freePagesOf 9 = .ok (.iadd, 1) := by decide +kernel
theorem d_C_freePagesOf_10 : decode b_C_freePagesOf 10 = .ok (.iconst 4, 1) := by decide +kernel
theorem d_C_freePagesOf_11 : decode b_C_freePagesOf 11 = .ok (.imul, 1) := by decide +kernel
theorem d_C_freePagesOf_12 : decode b_C_freePagesOf 12 = .ok (.if_icmp .ge (20), 3) := by decide +kernel
theorem d_C_freePagesOf_15 : decode b_C_freePagesOf 15 = .ok (.aload_n 0, 1) := by decide +kernel
theorem d_C_freePagesOf_16 : decode b_C_freePagesOf 16 = .ok (.iload_n 3, 1) := by decide +kernel
theorem d_C_freePagesOf_17 : decode b_C_freePagesOf 17 = .ok (.invokevirtual 43, 3) := by decide +kernel
theorem d_C_freePagesOf_20 : decode b_C_freePagesOf 20 = .ok (.ifCond .eq (6), 3) := by decide +kernel
theorem d_C_freePagesOf_23 : decode b_C_freePagesOf 23 = .ok (.iinc 2 1, 3) := by decide +kernel
theorem d_C_freePagesOf_26 : decode b_C_freePagesOf 26 = .ok (.iinc 3 1, 3) := by decide +kernel
theorem d_C_freePagesOf_29 : decode b_C_freePagesOf 29 = .ok (.goto (-23), 3) := by decide +kernel
theorem d_C_freePagesOf_32 : decode b_C_freePagesOf 32 = .ok (.iload_n 2, 1) := by decide +kernel
theorem d_C_freePagesOf_33 : decode b_C_freePagesOf 33 = .ok (.ireturn, 1) := by decide +kernel
theorem d_C_usableFreePages_0 : decode b_C_usableFreePages 0 = .ok (.iconst 0, 1) := by decide +kernel
theorem d_C_usableFreePages_1 : decode b_C_usableFreePages 1 = .ok (.istore_n 1, 1) := by decide +kernel
theorem d_C_usableFreePages_2 : decode b_C_usableFreePages 2 = .ok (.iconst 0, 1) := by decide +kernel
theorem d_C_usableFreePages_3 : decode b_C_usableFreePages 3 = .ok (.istore_n 2, 1) := by decide +kernel
theorem d_C_usableFreePages_4 : decode b_C_usableFreePages 4 = .ok (.iload_n 2, 1) := by decide +kernel
theorem d_C_usableFreePages_5 : decode b_C_usableFreePages 5 = .ok (.bipush 8, 2) := by decide +kernel
theorem d_C_usableFreePages_7 : decode b_C_usableFreePages 7 = .ok (.if_icmp .ge (26), 3) := by decide +kernel
theorem d_C_usableFreePages_10 : decode b_C_usableFreePages 10 = .ok (.aload_n 0, 1) := by decide +kernel
theorem d_C_usableFreePages_11 : decode b_C_usableFreePages 11 = .ok (.getfield 18, 3) := by decide +kernel
theorem d_C_usableFreePages_14 : decode b_C_usableFreePages 14 = .ok (.iload_n 2, 1) := by decide +kernel
theorem d_C_usableFreePages_15 : decode b_C_usableFreePages 15 = .ok (.baload, 1) := by decide +kernel
theorem d_C_usableFreePages_16 : decode b_C_usableFreePages 16 = .ok (.ifCond .ne (11), 3) := by decide +kernel
theorem d_C_usableFreePages_19 : decode b_C_usableFreePages 19 = .ok (.iload_n 1, 1) := by decide +kernel
theorem d_C_usableFreePages_20 : decode b_C_usableFreePages 20 = .ok (.aload_n 0, 1) := by decide +kernel
theorem d_C_usableFreePages_21 : decode b_C_usableFreePages 21 = .ok (.iload_n 2, 1) := by decide +kernel
theorem d_C_usableFreePages_22 : decode b_C_usableFreePages 22 = .ok (.invokevirtual 47, 3) := by decide +kernel
theorem d_C_usableFreePages_25 : decode b_C_usableFreePages 25 = .ok (.iadd, 1) := by decide +kernel
theorem d_C_usableFreePages_26 : decode b_C_usableFreePages 26 = .ok (.istore_n 1, 1) := by decide +kernel
theorem d_C_usableFreePages_27 : decode b_C_usableFreePages 27 = .ok (.iinc 2 1, 3) := by decide +kernel
theorem d_C_usableFreePages_30 : decode b_C_usableFreePages 30 = .ok (.goto (-26), 3) := by decide +kernel
theorem d_C_usableFreePages_33 : decode b_C_usableFreePages 33 = .ok (.iload_n 1, 1) := by decide +kernel
theorem d_C_usableFreePages_34 : decode b_C_usableFreePages 34 = .ok (.ireturn, 1) := by decide +kernel
theorem d_C_turnOff_0 : decode b_C_turnOff 0 = .ok (.aload_n 0, 1) := by decide +kernel
theorem d_C_turnOff_1 : decode b_C_turnOff 1 = .ok (.iconst 0, 1) := by decide +kernel
theorem d_C_turnOff_2 : decode b_C_turnOff 2 = .ok (.putfield 22, 3) := by decide +kernel
theorem d_C_turnOff_5 : decode b_C_turnOff 5 = .ok (.aload_n 0, 1) := by decide +kernel
theorem d_C_turnOff_6 : decode b_C_turnOff 6 = .ok (.iconst (-1), 1) := by decide +kernel
theorem d_C_turnOff_7 : decode b_C_turnOff 7 = .ok (.putfield 26, 3) := by decide +kernel
theorem d_C_turnOff_10 : decode b_C_turnOff 10 = .ok (.return_, 1) := by decide +kernel
theorem d_C_turnOn_0 : decode b_C_turnOn 0 = .ok (.aload_n 0, 1) := by decide +kernel
theorem d_C_turnOn_1 : decode b_C_turnOn 1 = .ok (.iconst 1, 1) := by decide +kernel
theorem d_C_turnOn_2 : decode b_C_turnOn 2 = .ok (.putfield 22, 3) := by decide +kernel
theorem d_C_turnOn_5 : decode b_C_turnOn 5 = .ok (.return_, 1) := by decide +kernel
theorem d_C_tellCut_0 : decode b_C_tellCut 0 = .ok (.aload_n 0, 1) := by decide +kernel
theorem d_C_tellCut_1 : decode b_C_tellCut 1 = .ok (.iload_n 1, 1) := by decide +kernel
theorem d_C_tellCut_2 : decode b_C_tellCut 2 = .ok (.putfield 26, 3) := by decide +kernel
theorem d_C_tellCut_5 : decode b_C_tellCut 5 = .ok (.return_, 1) := by decide +kernel
theorem d_C_flip_0 : decode b_C_flip 0 = .ok (.aload_n 0, 1) := by decide +kernel
theorem d_C_flip_1 : decode b_C_flip 1 = .ok (.getfield 9, 3) := by decide +kernel
theorem d_C_flip_4 : decode b_C_flip 4 = .ok (.iload_n 1, 1) := by decide +kernel
theorem d_C_flip_5 : decode b_C_flip 5 = .ok (.bipush 16, 2) := by decide +kernel
theorem d_C_flip_7 : decode b_C_flip 7 = .ok (.imul, 1) := by decide +kernel
theorem d_C_flip_8 : decode b_C_flip 8 = .ok (.iload_n 2, 1) := by decide +kernel
theorem d_C_flip_9 : decode b_C_flip 9 = .ok (.iadd, 1) := by decide +kernel
theorem d_C_flip_10 : decode b_C_flip 10 = .ok (.dup2, 1) := by decide +kernel
theorem d_C_flip_11 : decode b_C_flip 11 = .ok (.iaload, 1) := by decide +kernel
theorem d_C_flip_12 : decode b_C_flip 12 = .ok (.iload_n 3, 1) := by decide +kernel
theorem d_C_flip_13 : decode b_C_flip 13 = .ok (.ixor, 1) := by decide +kernel
theorem d_C_flip_14 : decode b_C_flip 14 = .ok (.iastore, 1) := by decide +kernel
theorem d_C_flip_15 : decode b_C_flip 15 = .ok (.return_, 1) := by decide +kernel
theorem d_C_markFailed_0 : decode b_C_markFailed 0 = .ok (.aload_n 0, 1) := by decide +kernel
theorem d_C_markFailed_1 : decode b_C_markFailed 1 = .ok (.getfield 18, 3) := by decide +kernel
theorem d_C_markFailed_4 : decode b_C_markFailed 4 = .ok (.iload_n 1, 1) := by decide +kernel
theorem d_C_markFailed_5 : decode b_C_markFailed 5 = .ok (.iconst 1, 1) := by decide +kernel
theorem d_C_markFailed_6 : decode b_C_markFailed 6 = .ok (.bastore, 1) := by decide +kernel
theorem d_C_markFailed_7 : decode b_C_markFailed 7 = .ok (.return_, 1) := by decide +kernel
theorem d_G_recordCount_0 : decode b_G_recordCount 0 = .ok (.aload_n 0, 1) := by decide +kernel
theorem d_G_recordCount_1 : decode b_G_recordCount 1 = .ok (.getfield 21, 3) := by decide +kernel
theorem d_G_recordCount_4 : decode b_G_recordCount 4 = .ok (.ireturn, 1) := by decide +kernel
theorem d_G_ticketCount_0 : decode b_G_ticketCount 0 = .ok (.aload_n 0, 1) := by decide +kernel
theorem d_G_ticketCount_1 : decode b_G_ticketCount 1 = .ok (.getfield 25, 3) := by decide +kernel
theorem d_G_ticketCount_4 : decode b_G_ticketCount 4 = .ok (.ireturn, 1) := by decide +kernel
theorem d_G_hasTicket_0 : decode b_G_hasTicket 0 = .ok (.iload_n 1, 1) := by decide +kernel
theorem d_G_hasTicket_1 : decode b_G_hasTicket 1 = .ok (.iconst 1, 1) := by decide +kernel
theorem d_G_hasTicket_2 : decode b_G_hasTicket 2 = .ok (.if_icmp .lt (15), 3) := by decide +kernel
theorem d_G_hasTicket_5 : decode b_G_hasTicket 5 = .ok (.iload_n 1, 1) := by decide +kernel
theorem d_G_hasTicket_6 : decode b_G_hasTicket 6 = .ok (.aload_n 0, 1) := by decide +kernel
theorem d_G_hasTicket_7 : decode b_G_hasTicket 7 = .ok (.getfield 25, 3) := by decide +kernel
theorem d_G_hasTicket_10 : decode b_G_hasTicket 10 = .ok (.if_icmp .gt (7), 3) := by decide +kernel
theorem d_G_hasTicket_13 : decode b_G_hasTicket 13 = .ok (.iconst 1, 1) := by decide +kernel
theorem d_G_hasTicket_14 : decode b_G_hasTicket 14 = .ok (.goto (4), 3) := by decide +kernel
theorem d_G_hasTicket_17 : decode b_G_hasTicket 17 = .ok (.iconst 0, 1) := by decide +kernel
theorem d_G_hasTicket_18 : decode b_G_hasTicket 18 = .ok (.ireturn, 1) := by decide +kernel
theorem d_G_empty_0 : decode b_G_empty 0 = .ok (.aload_n 0, 1) := by decide +kernel
theorem d_G_empty_1 : decode b_G_empty 1 = .ok (.iconst 0, 1) := by decide +kernel
theorem d_G_empty_2 : decode b_G_empty 2 = .ok (.putfield 21, 3) := by decide +kernel
theorem d_G_empty_5 : decode b_G_empty 5 = .ok (.aload_n 0, 1) := by decide +kernel
theorem d_G_empty_6 : decode b_G_empty 6 = .ok (.iconst 0, 1) := by decide +kernel
theorem d_G_empty_7 : decode b_G_empty 7 = .ok (.putfield 25, 3) := by decide +kernel
theorem d_G_empty_10 : decode b_G_empty 10 = .ok (.return_, 1) := by decide +kernel
theorem d_S_durableCount_0 : decode b_S_durableCount 0 = .ok (.aload_n 0, 1) := by decide +kernel
theorem d_S_durableCount_1 : decode b_S_durableCount 1 = .ok (.getfield 32, 3) := by decide +kernel
theorem d_S_durableCount_4 : decode b_S_durableCount 4 = .ok (.ireturn, 1) := by decide +kernel
theorem d_S_latestSerial_0 : decode b_S_latestSerial 0 = .ok (.aload_n 0, 1) := by decide +kernel
theorem d_S_latestSerial_1 : decode b_S_latestSerial 1 = .ok (.getfield 29, 3) := by decide +kernel
theorem d_S_latestSerial_4 : decode b_S_latestSerial 4 = .ok (.ireturn, 1) := by decide +kernel
theorem d_S_cursorBlock_0 : decode b_S_cursorBlock 0 = .ok (.aload_n 0, 1) := by decide +kernel
theorem d_S_cursorBlock_1 : decode b_S_cursorBlock 1 = .ok (.getfield 25, 3) := by decide +kernel
theorem d_S_cursorBlock_4 : decode b_S_cursorBlock 4 = .ok (.ireturn, 1) := by decide +kernel
theorem d_S_isLive_0 : decode b_S_isLive 0 = .ok (.iconst 0, 1) := by decide +kernel
theorem d_S_isLive_1 : decode b_S_isLive 1 = .ok (.istore_n 2, 1) := by decide +kernel
theorem d_S_isLive_2 : decode b_S_isLive 2 = .ok (.iload_n 2, 1) := by decide +kernel
theorem d_S_isLive_3 : decode b_S_isLive 3 = .ok (.bipush 16, 2) := by decide +kernel
theorem d_S_isLive_5 : decode b_S_isLive 5 = .ok (.if_icmp .ge (21), 3) := by decide +kernel
theorem d_S_isLive_8 : decode b_S_isLive 8 = .ok (.aload_n 0, 1) := by decide +kernel
theorem d_S_isLive_9 : decode b_S_isLive 9 = .ok (.getfield 18, 3) := by decide +kernel
theorem d_S_isLive_12 : decode b_S_isLive 12 = .ok (.iload_n 2, 1) := by decide +kernel
theorem d_S_isLive_13 : decode b_S_isLive 13 = .ok (.iaload, 1) := by decide +kernel
theorem d_S_isLive_14 : decode b_S_isLive 14 = .ok (.iload_n 1, 1) := by decide +kernel
theorem d_S_isLive_15 : decode b_S_isLive 15 = .ok (.if_icmp .ne (5), 3) := by decide +kernel
theorem d_S_isLive_18 : decode b_S_isLive 18 = .ok (.iconst 1, 1) := by decide +kernel
theorem d_S_isLive_19 : decode b_S_isLive 19 = .ok (.ireturn, 1) := by decide +kernel
theorem d_S_isLive_20 : decode b_S_isLive 20 = .ok (.iinc 2 1, 3) := by decide +kernel
theorem d_S_isLive_23 : decode b_S_isLive 23 = .ok (.goto (-21), 3) := by decide +kernel
theorem d_S_isLive_26 : decode b_S_isLive 26 = .ok (.iconst 0, 1) := by decide +kernel
theorem d_S_isLive_27 : decode b_S_isLive 27 = .ok (.ireturn, 1) := by decide +kernel
theorem d_S_livePageCount_0 : decode b_S_livePageCount 0 = .ok (.iconst 0, 1) := by decide +kernel
theorem d_S_livePageCount_1 : decode b_S_livePageCount 1 = .ok (.istore_n 1, 1) := by decide +kernel
theorem d_S_livePageCount_2 : decode b_S_livePageCount 2 = .ok (.iconst 0, 1) := by decide +kernel
theorem d_S_livePageCount_3 : decode b_S_livePageCount 3 = .ok (.istore_n 2, 1) := by decide +kernel
theorem d_S_livePageCount_4 : decode b_S_livePageCount 4 = .ok (.iload_n 2, 1) := by decide +kernel
theorem d_S_livePageCount_5 : decode b_S_livePageCount 5 = .ok (.bipush 32, 2) := by decide +kernel
theorem d_S_livePageCount_7 : decode b_S_livePageCount 7 = .ok (.if_icmp .ge (20), 3) := by decide +kernel
theorem d_S_livePageCount_10 : decode b_S_livePageCount 10 = .ok (.aload_n 0, 1) := by decide +kernel
theorem d_S_livePageCount_11 : decode b_S_livePageCount 11 = .ok (.iload_n 2, 1) := by decide +kernel
theorem d_S_livePageCount_12 : decode b_S_livePageCount 12 = .ok (.invokevirtual 39, 3) := by decide +kernel
theorem d_S_livePageCount_15 : decode b_S_livePageCount 15 = .ok (.ifCond .eq (6), 3) := by decide +kernel
theorem d_S_livePageCount_18 : decode b_S_livePageCount 18 = .ok (.iinc 1 1, 3) := by decide +kernel
theorem d_S_livePageCount_21 : decode b_S_livePageCount 21 = .ok (.iinc 2 1, 3) := by decide +kernel
theorem d_S_livePageCount_24 : decode b_S_livePageCount 24 = .ok (.goto (-20), 3) := by decide +kernel
theorem d_S_livePageCount_27 : decode b_S_livePageCount 27 = .ok (.iload_n 1, 1) := by decide +kernel
theorem d_S_livePageCount_28 : decode b_S_livePageCount 28 = .ok (.ireturn, 1) := by decide +kernel
theorem d_S_findNewestPages_0 : decode b_S_findNewestPages 0 = .ok (.iconst 0, 1) := by decide +kernel
theorem d_S_findNewestPages_1 : decode b_S_findNewestPages 1 = .ok (.istore_n 1, 1) := by decide +kernel
theorem d_S_findNewestPages_2 : decode b_S_findNewestPages 2 = .ok (.iload_n 1, 1) := by decide +kernel
theorem d_S_findNewestPages_3 : decode b_S_findNewestPages 3 = .ok (.bipush 16, 2) := by decide +kernel
theorem d_S_findNewestPages_5 : decode b_S_findNewestPages 5 = .ok (.if_icmp .ge (16), 3) := by decide +kernel
theorem d_S_findNewestPages_8 : decode b_S_findNewestPages 8 = .ok (.aload_n 0, 1) := by decide +kernel
theorem d_S_findNewestPages_9 : decode b_S_findNewestPages 9 = .ok (.getfield 18, 3) := by decide +kernel
theorem d_S_findNewestPages_12 : decode b_S_findNewestPages 12 = .ok (.iload_n 1, 1) := by decide +kernel
theorem d_S_findNewestPages_13 : decode b_S_findNewestPages 13 = .ok (.iconst (-1), 1) := by decide +kernel
theorem d_S_findNewestPages_14 : decode b_S_findNewestPages 14 = .ok (.iastore, 1) := by decide +kernel
theorem d_S_findNewestPages_15 : decode b_S_findNewestPages 15 = .ok (.iinc 1 1, 3) := by decide +kernel
theorem d_S_findNewestPages_18 : decode b_S_findNewestPages 18 = .ok (.goto (-16), 3) := by decide +kernel
theorem d_S_findNewestPages_21 : decode b_S_findNewestPages 21 = .ok (.iconst (-1), 1) := by decide +kernel
theorem d_S_findNewestPages_22 : decode b_S_findNewestPages 22 = .ok (.istore_n 1, 1) := by decide +kernel
theorem d_S_findNewestPages_23 : decode b_S_findNewestPages 23 = .ok (.iconst 0, 1) := by decide +kernel
theorem d_S_findNewestPages_24 : decode b_S_findNewestPages 24 = .ok (.istore_n 2, 1) := by decide +kernel
theorem d_S_findNewestPages_25 : decode b_S_findNewestPages 25 = .ok (.iload_n 2, 1) := by decide +kernel
theorem d_S_findNewestPages_26 : decode b_S_findNewestPages 26 = .ok (.bipush 32, 2) := by decide +kernel
theorem d_S_findNewestPages_28 : decode b_S_findNewestPages 28 = .ok (.if_icmp .ge (56), 3) := by decide +kernel
theorem d_S_findNewestPages_31 : decode b_S_findNewestPages 31 = .ok (.aload_n 0, 1) := by decide +kernel
theorem d_S_findNewestPages_32 : decode b_S_findNewestPages 32 = .ok (.getfield 12, 3) := by decide +kernel
theorem d_S_findNewestPages_35 : decode b_S_findNewestPages 35 = .ok (.iload_n 2, 1) := by decide +kernel
theorem d_S_findNewestPages_36 : decode b_S_findNewestPages 36 = .ok (.invokevirtual 120, 3) := by decide +kernel
theorem d_S_findNewestPages_39 : decode b_S_findNewestPages 39 = .ok (.ifCond .eq (39), 3) := by decide +kernel
theorem d_S_findNewestPages_42 : decode b_S_findNewestPages 42 = .ok (.aload_n 0, 1) := by decide +kernel
theorem d_S_findNewestPages_43 : decode b_S_findNewestPages 43 = .ok (.getfield 12, 3) := by decide +kernel
theorem d_S_findNewestPages_46 : decode b_S_findNewestPages 46 = .ok (.iload_n 2, 1) := by decide +kernel
theorem d_S_findNewestPages_47 : decode b_S_findNewestPages 47 = .ok (.iconst 0, 1) := by decide +kernel
theorem d_S_findNewestPages_48 : decode b_S_findNewestPages 48 = .ok (.invokevirtual 85, 3) := by decide +kernel
theorem d_S_findNewestPages_51 : decode b_S_findNewestPages 51 = .ok (.iconst 4, 1) := by decide +kernel
theorem d_S_findNewestPages_52 : decode b_S_findNewestPages 52 = .ok (.idiv, 1) := by decide +kernel
theorem d_S_findNewestPages_53 : decode b_S_findNewestPages 53 = .ok (.istore_n 3, 1) := by decide +kernel
theorem d_S_findNewestPages_54 : decode b_S_findNewestPages 54 = .ok (.aload_n 0, 1) := by decide +kernel
theorem d_S_findNewestPages_55 : decode b_S_findNewestPages 55 = .ok (.getfield 18, 3) := by decide +kernel
theorem d_S_findNewestPages_58 : decode b_S_findNewestPages 58 = .ok (.iload_n 3, 1) := by decide +kernel
theorem d_S_findNewestPages_59 : decode b_S_findNewestPages 59 = .ok (.aload_n 0, 1) := by decide +kernel
theorem d_S_findNewestPages_60 : decode b_S_findNewestPages 60 = .ok (.aload_n 0, 1) := by decide +kernel
theorem d_S_findNewestPages_61 : decode b_S_findNewestPages 61 = .ok (.getfield 18, 3) := by decide +kernel
theorem d_S_findNewestPages_64 : decode b_S_findNewestPages 64 = .ok (.iload_n 3, 1) := by decide +kernel
theorem d_S_findNewestPages_65 : decode b_S_findNewestPages 65 = .ok (.iaload, 1) := by decide +kernel
theorem d_S_findNewestPages_66 : decode b_S_findNewestPages 66 = .ok (.iload_n 2, 1) := by decide +kernel
theorem d_S_findNewestPages_67 : decode b_S_findNewestPages 67 = .ok (.invokevirtual 123, 3) := by decide +kernel
theorem d_S_findNewestPages_70 : decode b_S_findNewestPages 70 = .ok (.iastore, 1) := by decide +kernel
theorem d_S_findNewestPages_71 : decode b_S_findNewestPages 71 = .ok (.aload_n 0, 1) := by decide +kernel
theorem d_S_findNewestPages_72 : decode b_S_findNewestPages 72 = .ok (.iload_n 1, 1) := by decide +kernel
theorem d_S_findNewestPages_73 : decode b_S_findNewestPages 73 = .ok (.iload_n 2, 1) := by decide +kernel
theorem d_S_findNewestPages_74 : decode b_S_findNewestPages 74 = .ok (.invokevirtual 123, 3) := by decide +kernel
theorem d_S_findNewestPages_77 : decode b_S_findNewestPages 77 = .ok (.istore_n 1, 1) := by decide +kernel
theorem d_S_findNewestPages_78 : decode b_S_findNewestPages 78 = .ok (.iinc 2 1, 3) := by decide +kernel
theorem d_S_findNewestPages_81 : decode b_S_findNewestPages 81 = .ok (.goto (-56), 3) := by decide +kernel
theorem d_S_findNewestPages_84 : decode b_S_findNewestPages 84 = .ok (.iload_n 1, 1) := by decide +kernel
theorem d_S_findNewestPages_85 : decode b_S_findNewestPages 85 = .ok (.ireturn, 1) := by decide +kernel
theorem d_S_restore_0 : decode b_S_restore 0 = .ok (.aload_n 0, 1) := by decide +kernel
theorem d_S_restore_1 : decode b_S_restore 1 = .ok (.invokevirtual 110, 3) := by decide +kernel
theorem d_S_restore_4 : decode b_S_restore 4 = .ok (.istore_n 2, 1) := by decide +kernel
theorem d_S_restore_5 : decode b_S_restore 5 = .ok (.aload_n 0, 1) := by decide +kernel
theorem d_S_restore_6 : decode b_S_restore 6 = .ok (.iload_n 2, 1) := by decide +kernel
theorem d_S_restore_7 : decode b_S_restore 7 = .ok (.iconst (-1), 1) := by decide +kernel
theorem d_S_restore_8 : decode b_S_restore 8 = .ok (.if_icmp .ne (7), 3) := by decide +kernel
theorem d_S_restore_11 : decode b_S_restore 11 = .ok (.iconst (-1), 1) := by decide +kernel
theorem d_S_restore_12 : decode b_S_restore 12 = .ok (.goto (6), 3) := by decide +kernel
theorem d_S_restore_15 : decode b_S_restore 15 = .ok (.iload_n 2, 1) := by decide +kernel
theorem d_S_restore_16 : decode b_S_restore 16 = .ok (.iconst 4, 1) := by decide +kernel
theorem d_S_restore_17 : decode b_S_restore 17 = .ok (.idiv, 1) := by decide +kernel
theorem d_S_restore_18 : decode b_S_restore 18 = .ok (.putfield 25, 3) := by decide +kernel
theorem d_S_restore_21 : decode b_S_restore 21 = .ok (.aload_n 0, 1) := by decide +kernel
theorem d_S_restore_22 : decode b_S_restore 22 = .ok (.iload_n 2, 1) := by decide +kernel
theorem d_S_restore_23 : decode b_S_restore 23 = .ok (.iconst (-1), 1) := by decide +kernel
theorem d_S_restore_24 : decode b_S_restore 24 = .ok (.if_icmp .ne (7), 3) := by decide +kernel
theorem d_S_restore_27 : decode b_S_restore 27 = .ok (.iconst 0, 1) := by decide +kernel
theorem d_S_restore_28 : decode b_S_restore 28 = .ok (.goto (12), 3) := by decide +kernel
theorem d_S_restore_31 : decode b_S_restore 31 = .ok (.aload_n 0, 1) := by decide +kernel
theorem d_S_restore_32 : decode b_S_restore 32 = .ok (.getfield 12, 3) := by decide +kernel
theorem d_S_restore_35 : decode b_S_restore 35 = .ok (.iload_n 2, 1) := by decide +kernel
theorem d_S_restore_36 : decode b_S_restore 36 = .ok (.iconst 1, 1) := by decide +kernel
theorem d_S_restore_37 : decode b_S_restore 37 = .ok (.invokevirtual 85, 3) := by decide +kernel
theorem d_S_restore_40 : decode b_S_restore 40 = .ok (.putfield 29, 3) := by decide +kernel
theorem d_S_restore_43 : decode b_S_restore 43 = .ok (.aload_n 0, 1) := by decide +kernel
theorem d_S_restore_44 : decode b_S_restore 44 = .ok (.iconst 0, 1) := by decide +kernel
theorem d_S_restore_45 : decode b_S_restore 45 = .ok (.putfield 35, 3) := by decide +kernel
theorem d_S_restore_48 : decode b_S_restore 48 = .ok (.aload_n 1, 1) := by decide +kernel
theorem d_S_restore_49 : decode b_S_restore 49 = .ok (.invokevirtual 113, 3) := by decide +kernel
theorem d_S_restore_52 : decode b_S_restore 52 = .ok (.iconst 1, 1) := by decide +kernel
theorem d_S_restore_53 : decode b_S_restore 53 = .ok (.istore_n 3, 1) := by decide +kernel
theorem d_S_restore_54 : decode b_S_restore 54 = .ok (.iconst 0, 1) := by decide +kernel
theorem d_S_restore_55 : decode b_S_restore 55 = .ok (.istore 4, 2) := by decide +kernel
theorem d_S_restore_57 : decode b_S_restore 57 = .ok (.iload 4, 2) := by decide +kernel
theorem d_S_restore_59 : decode b_S_restore 59 = .ok (.bipush 16, 2) := by decide +kernel
theorem d_S_restore_61 : decode b_S_restore 61 = .ok (.if_icmp .ge (67), 3) := by decide +kernel
theorem d_S_restore_64 : decode b_S_restore 64 = .ok (.iload_n 3, 1) := by decide +kernel
theorem d_S_restore_65 : decode b_S_restore 65 = .ok (.ifCond .eq (18), 3) := by decide +kernel
theorem d_S_restore_68 : decode b_S_restore 68 = .ok (.aload_n 0, 1) := by decide +kernel
theorem d_S_restore_69 : decode b_S_restore 69 = .ok (.getfield 18, 3) := by decide +kernel
theorem d_S_restore_72 : decode b_S_restore 72 = .ok (.iload 4, 2) := by decide +kernel
theorem d_S_restore_74 : decode b_S_restore 74 = .ok (.iaload, 1) := by decide +kernel
theorem d_S_restore_75 : decode b_S_restore 75 = .ok (.iconst (-1), 1) := by decide +kernel
theorem d_S_restore_76 : decode b_S_restore 76 = .ok (.if_icmp .eq (7), 3) := by decide +kernel
theorem d_S_restore_79 : decode b_S_restore 79 = .ok (.iconst 1, 1) := by decide +kernel
theorem d_S_restore_80 : decode b_S_restore 80 = .ok (.goto (4), 3) := by decide +kernel
theorem d_S_restore_83 : decode b_S_restore 83 = .ok (.iconst 0, 1) := by decide +kernel
theorem d_S_restore_84 : decode b_S_restore 84 = .ok (.istore_n 3, 1) := by decide +kernel
theorem d_S_restore_85 : decode b_S_restore 85 = .ok (.iload_n 3, 1) := by decide +kernel
theorem d_S_restore_86 : decode b_S_restore 86 = .ok (.ifCond .eq (28), 3) := by decide +kernel
theorem d_S_restore_89 : decode b_S_restore 89 = .ok (.aload_n 0, 1) := by decide +kernel
theorem d_S_restore_90 : decode b_S_restore 90 = .ok (.aload_n 1, 1) := by decide +kernel
theorem d_S_restore_91 : decode b_S_restore 91 = .ok (.aload_n 0, 1) := by decide +kernel
theorem d_S_restore_92 : decode b_S_restore 92 = .ok (.getfield 18, 3) := by decide +kernel
theorem d_S_restore_95 : decode b_S_restore 95 = .ok (.iload 4, 2) := by decide +kernel
theorem d_S_restore_97 : decode b_S_restore 97 = .ok (.iaload, 1) := by decide +kernel
theorem d_S_restore_98 : decode b_S_restore 98 = .ok (.invokevirtual 116, 3) := by decide +kernel
theorem d_S_restore_101 : decode b_S_restore 101 = .ok (.iconst 3, 1) := by decide +kernel
theorem d_S_restore_102 : decode b_S_restore 102 = .ok (.if_icmp .ne (7), 3) := by decide +kernel
theorem d_S_restore_105 : decode b_S_restore 105 = .ok (.iconst 1, 1) := by decide +kernel
theorem d_S_restore_106 : decode b_S_restore 106 = .ok (.goto (4), 3) := by decide +kernel
theorem d_S_restore_109 : decode b_S_restore 109 = .ok (.iconst 0, 1) := by decide +kernel
theorem d_S_restore_110 : decode b_S_restore 110 = .ok (.istore_n 3, 1) := by decide +kernel
theorem d_S_restore_111 : decode b_S_restore 111 = .ok (.goto (11), 3) := by decide +kernel
theorem d_S_restore_114 : decode b_S_restore 114 = .ok (.aload_n 0, 1) := by decide +kernel
theorem d_S_restore_115 : decode b_S_restore 115 = .ok (.getfield 18, 3) := by decide +kernel
theorem d_S_restore_118 : decode b_S_restore 118 = .ok (.iload 4, 2) := by decide +kernel
theorem d_S_restore_120 : decode b_S_restore 120 = .ok (.iconst (-1), 1) := by decide +kernel
theorem d_S_restore_121 : decode b_S_restore 121 = .ok (.iastore, 1) := by decide +kernel
theorem d_S_restore_122 : decode b_S_restore 122 = .ok (.iinc 4 1, 3) := by decide +kernel
theorem d_S_restore_125 : decode b_S_restore 125 = .ok (.goto (-68), 3) := by decide +kernel
theorem d_S_restore_128 : decode b_S_restore 128 = .ok (.aload_n 0, 1) := by decide +kernel
theorem d_S_restore_129 : decode b_S_restore 129 = .ok (.aload_n 1, 1) := by decide +kernel
theorem d_S_restore_130 : decode b_S_restore 130 = .ok (.invokevirtual 96, 3) := by decide +kernel
theorem d_S_restore_133 : decode b_S_restore 133 = .ok (.putfield 32, 3) := by decide +kernel
theorem d_S_restore_136 : decode b_S_restore 136 = .ok (.return_, 1) := by decide +kernel
theorem d_R_forgetReadings_0 : decode b_R_forgetReadings 0 = .ok (.aload_n 0, 1) := by decide +kernel
theorem d_R_forgetReadings_1 : decode b_R_forgetReadings 1 = .ok (.iconst 0, 1) := by decide +kernel
theorem d_R_forgetReadings_2 : decode b_R_forgetReadings 2 = .ok (.putfield 41, 3) := by decide +kernel
theorem d_R_forgetReadings_5 : decode b_R_forgetReadings 5 = .ok (.aload_n 0, 1) := by decide +kernel
theorem d_R_forgetReadings_6 : decode b_R_forgetReadings 6 = .ok (.iconst 0, 1) := by decide +kernel
theorem d_R_forgetReadings_7 : decode b_R_forgetReadings 7 = .ok (.putfield 45, 3) := by decide +kernel
theorem d_R_forgetReadings_10 : decode b_R_forgetReadings 10 = .ok (.return_, 1) := by decide +kernel
theorem d_R_crash_0 : decode b_R_crash 0 = .ok (.aload_n 0, 1) := by decide +kernel
theorem d_R_crash_1 : decode b_R_crash 1 = .ok (.getfield 20, 3) := by decide +kernel
theorem d_R_crash_4 : decode b_R_crash 4 = .ok (.invokevirtual 162, 3) := by decide +kernel
theorem d_R_crash_7 : decode b_R_crash 7 = .ok (.return_, 1) := by decide +kernel
theorem d_R_mount_0 : decode b_R_mount 0 = .ok (.aload_n 0, 1) := by decide +kernel
theorem d_R_mount_1 : decode b_R_mount 1 = .ok (.getfield 20, 3) := by decide +kernel
theorem d_R_mount_4 : decode b_R_mount 4 = .ok (.invokevirtual 162, 3) := by decide +kernel
theorem d_R_mount_7 : decode b_R_mount 7 = .ok (.aload_n 0, 1) := by decide +kernel
theorem d_R_mount_8 : decode b_R_mount 8 = .ok (.invokevirtual 78, 3) := by decide +kernel
theorem d_R_mount_11 : decode b_R_mount 11 = .ok (.aload_n 0, 1) := by decide +kernel
theorem d_R_mount_12 : decode b_R_mount 12 = .ok (.getfield 12, 3) := by decide +kernel
theorem d_R_mount_15 : decode b_R_mount 15 = .ok (.aload_n 0, 1) := by decide +kernel
theorem d_R_mount_16 : decode b_R_mount 16 = .ok (.getfield 26, 3) := by decide +kernel
theorem d_R_mount_19 : decode b_R_mount 19 = .ok (.invokevirtual 165, 3) := by decide +kernel
theorem d_R_mount_22 : decode b_R_mount 22 = .ok (.aload_n 0, 1) := by decide +kernel
theorem d_R_mount_23 : decode b_R_mount 23 = .ok (.getfield 20, 3) := by decide +kernel
theorem d_R_mount_26 : decode b_R_mount 26 = .ok (.invokevirtual 169, 3) := by decide +kernel
theorem d_R_mount_29 : decode b_R_mount 29 = .ok (.aload_n 0, 1) := by decide +kernel
theorem d_R_mount_30 : decode b_R_mount 30 = .ok (.getfield 26, 3) := by decide +kernel
theorem d_R_mount_33 : decode b_R_mount 33 = .ok (.invokevirtual 81, 3) := by decide +kernel
theorem d_R_mount_36 : decode b_R_mount 36 = .ok (.ireturn, 1) := by decide +kernel
theorem d_M_thrown_0 : decode b_M_thrown 0 = .ok (.aload_n 0, 1) := by decide +kernel
theorem d_M_thrown_1 : decode b_M_thrown 1 = .ok (.getfield 49, 3) := by decide +kernel
theorem d_M_thrown_4 : decode b_M_thrown 4 = .ok (.ireturn, 1) := by decide +kernel
theorem d_M_isIn_0 : decode b_M_isIn 0 = .ok (.iload_n 0, 1) := by decide +kernel
theorem d_M_isIn_1 : decode b_M_isIn 1 = .ok (.iload_n 1, 1) := by decide +kernel
theorem d_M_isIn_2 : decode b_M_isIn 2 = .ok (.if_icmp .lt (12), 3) := by decide +kernel
theorem d_M_isIn_5 : decode b_M_isIn 5 = .ok (.iload_n 0, 1) := by decide +kernel
theorem d_M_isIn_6 : decode b_M_isIn 6 = .ok (.iload_n 2, 1) := by decide +kernel
theorem d_M_isIn_7 : decode b_M_isIn 7 = .ok (.if_icmp .gt (7), 3) := by decide +kernel
theorem d_M_isIn_10 : decode b_M_isIn 10 = .ok (.iconst 1, 1) := by decide +kernel
theorem d_M_isIn_11 : decode b_M_isIn 11 = .ok (.goto (4), 3) := by decide +kernel
theorem d_M_isIn_14 : decode b_M_isIn 14 = .ok (.iconst 0, 1) := by decide +kernel
theorem d_M_isIn_15 : decode b_M_isIn 15 = .ok (.ireturn, 1) := by decide +kernel
theorem d_R_isWithin_0 : decode b_R_isWithin 0 = .ok (.iload_n 0, 1) := by decide +kernel
theorem d_R_isWithin_1 : decode b_R_isWithin 1 = .ok (.iload_n 1, 1) := by decide +kernel
theorem d_R_isWithin_2 : decode b_R_isWithin 2 = .ok (.if_icmp .lt (12), 3) := by decide +kernel
theorem d_R_isWithin_5 : decode b_R_isWithin 5 = .ok (.iload_n 0, 1) := by decide +kernel
theorem d_R_isWithin_6 : decode b_R_isWithin 6 = .ok (.iload_n 2, 1) := by decide +kernel
theorem d_R_isWithin_7 : decode b_R_isWithin 7 = .ok (.if_icmp .gt (7), 3) := by decide +kernel
theorem d_R_isWithin_10 : decode b_R_isWithin 10 = .ok (.iconst 1, 1) := by decide +kernel
theorem d_R_isWithin_11 : decode b_R_isWithin 11 = .ok (.goto (4), 3) := by decide +kernel
theorem d_R_isWithin_14 : decode b_R_isWithin 14 = .ok (.iconst 0, 1) := by decide +kernel
theorem d_R_isWithin_15 : decode b_R_isWithin 15 = .ok (.ireturn, 1) := by decide +kernel
theorem d_M_fails_0 : decode b_M_fails 0 = .ok (.aload_n 0, 1) := by decide +kernel
theorem d_M_fails_1 : decode b_M_fails 1 = .ok (.iload_n 2, 1) := by decide +kernel
theorem d_M_fails_2 : decode b_M_fails 2 = .ok (.ifCond .eq (7), 3) := by decide +kernel
theorem d_M_fails_5 : decode b_M_fails 5 = .ok (.iload_n 1, 1) := by decide +kernel
theorem d_M_fails_6 : decode b_M_fails 6 = .ok (.goto (4), 3) := by decide +kernel
theorem d_M_fails_9 : decode b_M_fails 9 = .ok (.iconst 0, 1) := by decide +kernel
theorem d_M_fails_10 : decode b_M_fails 10 = .ok (.putfield 49, 3) := by decide +kernel
theorem d_M_fails_13 : decode b_M_fails 13 = .ok (.iload_n 2, 1) := by decide +kernel
theorem d_M_fails_14 : decode b_M_fails 14 = .ok (.ireturn, 1) := by decide +kernel
theorem d_M_forget_0 : decode b_M_forget 0 = .ok (.aload_n 0, 1) := by decide +kernel
theorem d_M_forget_1 : decode b_M_forget 1 = .ok (.iconst 0, 1) := by decide +kernel
theorem d_M_forget_2 : decode b_M_forget 2 = .ok (.putfield 52, 3) := by decide +kernel
theorem d_M_forget_5 : decode b_M_forget 5 = .ok (.iconst 0, 1) := by decide +kernel
theorem d_M_forget_6 : decode b_M_forget 6 = .ok (.istore_n 1, 1) := by decide +kernel
theorem d_M_forget_7 : decode b_M_forget 7 = .ok (.iload_n 1, 1) := by decide +kernel
theorem d_M_forget_8 : decode b_M_forget 8 = .ok (.bipush 16, 2) := by decide +kernel
theorem d_M_forget_10 : decode b_M_forget 10 = .ok (.if_icmp .ge (16), 3) := by decide +kernel
theorem d_M_forget_13 : decode b_M_forget 13 = .ok (.aload_n 0, 1) := by decide +kernel
theorem d_M_forget_14 : decode b_M_forget 14 = .ok (.getfield 34, 3) := by decide +kernel
theorem d_M_forget_17 : decode b_M_forget 17 = .ok (.iload_n 1, 1) := by decide +kernel
theorem d_M_forget_18 : decode b_M_forget 18 = .ok (.iconst (-1), 1) := by decide +kernel
theorem d_M_forget_19 : decode b_M_forget 19 = .ok (.iastore, 1) := by decide +kernel
theorem d_M_forget_20 : decode b_M_forget 20 = .ok (.iinc 1 1, 3) := by decide +kernel
theorem d_M_forget_23 : decode b_M_forget 23 = .ok (.goto (-16), 3) := by decide +kernel
theorem d_M_forget_26 : decode b_M_forget 26 = .ok (.aload_n 0, 1) := by decide +kernel
theorem d_M_forget_27 : decode b_M_forget 27 = .ok (.iconst 0, 1) := by decide +kernel
theorem d_M_forget_28 : decode b_M_forget 28 = .ok (.putfield 55, 3) := by decide +kernel
theorem d_M_forget_31 : decode b_M_forget 31 = .ok (.aload_n 0, 1) := by decide +kernel
theorem d_M_forget_32 : decode b_M_forget 32 = .ok (.iconst (-1), 1) := by decide +kernel
theorem d_M_forget_33 : decode b_M_forget 33 = .ok (.putfield 40, 3) := by decide +kernel
theorem d_M_forget_36 : decode b_M_forget 36 = .ok (.aload_n 0, 1) := by decide +kernel
theorem d_M_forget_37 : decode b_M_forget 37 = .ok (.iconst 0, 1) := by decide +kernel
theorem d_M_forget_38 : decode b_M_forget 38 = .ok (.putfield 58, 3) := by decide +kernel
theorem d_M_forget_41 : decode b_M_forget 41 = .ok (.aload_n 0, 1) := by decide +kernel
theorem d_M_forget_42 : decode b_M_forget 42 = .ok (.iconst 0, 1) := by decide +kernel
theorem d_M_forget_43 : decode b_M_forget 43 = .ok (.putfield 61, 3) := by decide +kernel
theorem d_M_forget_46 : decode b_M_forget 46 = .ok (.aload_n 0, 1) := by decide +kernel
theorem d_M_forget_47 : decode b_M_forget 47 = .ok (.iconst 0, 1) := by decide +kernel
theorem d_M_forget_48 : decode b_M_forget 48 = .ok (.putfield 64, 3) := by decide +kernel
theorem d_M_forget_51 : decode b_M_forget 51 = .ok (.aload_n 0, 1) := by decide +kernel
theorem d_M_forget_52 : decode b_M_forget 52 = .ok (.iconst (-1), 1) := by decide +kernel
theorem d_M_forget_53 : decode b_M_forget 53 = .ok (.putfield 27, 3) := by decide +kernel
theorem d_M_forget_56 : decode b_M_forget 56 = .ok (.return_, 1) := by decide +kernel
theorem d_M_off_0 : decode b_M_off 0 = .ok (.aload_n 0, 1) := by decide +kernel
theorem d_M_off_1 : decode b_M_off 1 = .ok (.iconst 0, 1) := by decide +kernel
theorem d_M_off_2 : decode b_M_off 2 = .ok (.putfield 23, 3) := by decide +kernel
theorem d_M_off_5 : decode b_M_off 5 = .ok (.aload_n 0, 1) := by decide +kernel
theorem d_M_off_6 : decode b_M_off 6 = .ok (.invokevirtual 46, 3) := by decide +kernel
theorem d_M_off_9 : decode b_M_off 9 = .ok (.return_, 1) := by decide +kernel
theorem d_M_isFree_0 : decode b_M_isFree 0 = .ok (.iconst 1, 1) := by decide +kernel
theorem d_M_isFree_1 : decode b_M_isFree 1 = .ok (.istore_n 2, 1) := by decide +kernel
theorem d_M_isFree_2 : decode b_M_isFree 2 = .ok (.iconst 0, 1) := by decide +kernel
theorem d_M_isFree_3 : decode b_M_isFree 3 = .ok (.istore_n 3, 1) := by decide +kernel
theorem d_M_isFree_4 : decode b_M_isFree 4 = .ok (.iload_n 3, 1) := by decide +kernel
theorem d_M_isFree_5 : decode b_M_isFree 5 = .ok (.bipush 16, 2) := by decide +kernel
theorem d_M_isFree_7 : decode b_M_isFree 7 = .ok (.if_icmp .ge (34), 3) := by decide +kernel
theorem d_M_isFree_10 : decode b_M_isFree 10 = .ok (.iload_n 2, 1) := by decide +kernel
theorem d_M_isFree_11 : decode b_M_isFree 11 = .ok (.ifCond .eq (22), 3) := by decide +kernel
theorem d_M_isFree_14 : decode b_M_isFree 14 = .ok (.aload_n 0, 1) := by decide +kernel
theorem d_M_isFree_15 : decode b_M_isFree 15 = .ok (.getfield 7, 3) := by decide +kernel
theorem d_M_isFree_18 : decode b_M_isFree 18 = .ok (.bipush 16, 2) := by decide +kernel
theorem d_M_isFree_20 : decode b_M_isFree 20 = .ok (.iload_n 1, 1) := by decide +kernel
theorem d_M_isFree_21 : decode b_M_isFree 21 = .ok (.imul, 1) := by decide +kernel
theorem d_M_isFree_22 : decode b_M_isFree 22 = .ok (.iload_n 3, 1) := by decide +kernel
theorem d_M_isFree_23 : decode b_M_isFree 23 = .ok (.iadd, 1) := by decide +kernel
theorem d_M_isFree_24 : decode b_M_isFree 24 = .ok (.iaload, 1) := by decide +kernel
theorem d_M_isFree_25 : decode b_M_isFree 25 = .ok (.iconst (-1), 1) := by decide +kernel
theorem d_M_isFree_26 : decode b_M_isFree 26 = .ok (.if_icmp .ne (7), 3) := by decide +kernel
theorem d_M_isFree_29 : decode b_M_isFree 29 = .ok (.iconst 1, 1) := by decide +kernel
theorem d_M_isFree_30 : decode b_M_isFree 30 = .ok (.goto (4), 3) := by decide +kernel
theorem d_M_isFree_33 : decode b_M_isFree 33 = .ok (.iconst 0, 1) := by decide +kernel
theorem d_M_isFree_34 : decode b_M_isFree 34 = .ok (.istore_n 2, 1) := by decide +kernel
theorem d_M_isFree_35 : decode b_M_isFree 35 = .ok (.iinc 3 1, 3) := by decide +kernel
theorem d_M_isFree_38 : decode b_M_isFree 38 = .ok (.goto (-34), 3) := by decide +kernel
theorem d_M_isFree_41 : decode b_M_isFree 41 = .ok (.iload_n 2, 1) := by decide +kernel
theorem d_M_isFree_42 : decode b_M_isFree 42 = .ok (.ireturn, 1) := by decide +kernel
theorem d_M_isRight_0 : decode b_M_isRight 0 = .ok (.aload_n 0, 1) := by decide +kernel
theorem d_M_isRight_1 : decode b_M_isRight 1 = .ok (.getfield 7, 3) := by decide +kernel
theorem d_M_isRight_4 : decode b_M_isRight 4 = .ok (.bipush 16, 2) := by decide +kernel
theorem d_M_isRight_6 : decode b_M_isRight 6 = .ok (.iload_n 1, 1) := by decide +kernel
theorem d_M_isRight_7 : decode b_M_isRight 7 = .ok (.imul, 1) := by decide +kernel
theorem d_M_isRight_8 : decode b_M_isRight 8 = .ok (.iaload, 1) := by decide +kernel
theorem d_M_isRight_9 : decode b_M_isRight 9 = .ok (.istore_n 2, 1) := by decide +kernel
theorem d_M_isRight_10 : decode b_M_isRight 10 = .ok (.iload_n 2, 1) := by decide +kernel
theorem d_M_isRight_11 : decode b_M_isRight 11 = .ok (.ifCond .lt (65), 3) := by decide +kernel
theorem d_M_isRight_14 : decode b_M_isRight 14 = .ok (.iload_n 2, 1) := by decide +kernel
theorem d_M_isRight_15 : decode b_M_isRight 15 = .ok (.bipush 64, 2) := by decide +kernel
theorem d_M_isRight_17 : decode b_M_isRight 17 = .ok (.if_icmp .ge (59), 3) := by decide +kernel
theorem d_M_isRight_20 : decode b_M_isRight 20 = .ok (.iload_n 2, 1) := by decide +kernel
theorem d_M_isRight_21 : decode b_M_isRight 21 = .ok (.iconst 4, 1) := by decide +kernel
theorem d_M_isRight_22 : decode b_M_isRight 22 = .ok (.irem, 1) := by decide +kernel
theorem d_M_isRight_23 : decode b_M_isRight 23 = .ok (.ifCond .le (53), 3) := by decide +kernel
theorem d_M_isRight_26 : decode b_M_isRight 26 = .ok (.aload_n 0, 1) := by decide +kernel
theorem d_M_isRight_27 : decode b_M_isRight 27 = .ok (.getfield 7, 3) := by decide +kernel
theorem d_M_isRight_30 : decode b_M_isRight 30 = .ok (.bipush 16, 2) := by decide +kernel
theorem d_M_isRight_32 : decode b_M_isRight 32 = .ok (.iload_n 1, 1) := by decide +kernel
theorem d_M_isRight_33 : decode b_M_isRight 33 = .ok (.imul, 1) := by decide +kernel
theorem d_M_isRight_34 : decode b_M_isRight 34 = .ok (.bipush 15, 2) := by decide +kernel
theorem d_M_isRight_36 : decode b_M_isRight 36 = .ok (.iadd, 1) := by decide +kernel
theorem d_M_isRight_37 : decode b_M_isRight 37 = .ok (.iaload, 1) := by decide +kernel
theorem d_M_isRight_38 : decode b_M_isRight 38 = .ok (.ldc 75, 2) := by decide +kernel
theorem d_M_isRight_40 : decode b_M_isRight 40 = .ok (.if_icmp .ne (36), 3) := by decide +kernel
theorem d_M_isRight_43 : decode b_M_isRight 43 = .ok (.aload_n 0, 1) := by decide +kernel
theorem d_M_isRight_44 : decode b_M_isRight 44 = .ok (.getfield 7, 3) := by decide +kernel
theorem d_M_isRight_47 : decode b_M_isRight 47 = .ok (.bipush 16, 2) := by decide +kernel
theorem d_M_isRight_49 : decode b_M_isRight 49 = .ok (.iload_n 1, 1) := by decide +kernel
theorem d_M_isRight_50 : decode b_M_isRight 50 = .ok (.imul, 1) := by decide +kernel
theorem d_M_isRight_51 : decode b_M_isRight 51 = .ok (.bipush 14, 2) := by decide +kernel
theorem d_M_isRight_53 : decode b_M_isRight 53 = .ok (.iadd, 1) := by decide +kernel
theorem d_M_isRight_54 : decode b_M_isRight 54 = .ok (.iaload, 1) := by decide +kernel
theorem d_M_isRight_55 : decode b_M_isRight 55 = .ok (.aload_n 0, 1) := by decide +kernel
theorem d_M_isRight_56 : decode b_M_isRight 56 = .ok (.aload_n 0, 1) := by decide +kernel
theorem d_M_isRight_57 : decode b_M_isRight 57 = .ok (.getfield 7, 3) := by decide +kernel
theorem d_M_isRight_60 : decode b_M_isRight 60 = .ok (.bipush 16, 2) := by decide +kernel
theorem d_M_isRight_62 : decode b_M_isRight 62 = .ok (.iload_n 1, 1) := by decide +kernel
theorem d_M_isRight_63 : decode b_M_isRight 63 = .ok (.imul, 1) := by decide +kernel
theorem d_M_isRight_64 : decode b_M_isRight 64 = .ok (.bipush 14, 2) := by decide +kernel
theorem d_M_isRight_66 : decode b_M_isRight 66 = .ok (.invokevirtual 76, 3) := by decide +kernel
theorem d_M_isRight_69 : decode b_M_isRight 69 = .ok (.if_icmp .ne (7), 3) := by decide +kernel
theorem d_M_isRight_72 : decode b_M_isRight 72 = .ok (.iconst 1, 1) := by decide +kernel
theorem d_M_isRight_73 : decode b_M_isRight 73 = .ok (.goto (4), 3) := by decide +kernel
theorem d_M_isRight_76 : decode b_M_isRight 76 = .ok (.iconst 0, 1) := by decide +kernel
theorem d_M_isRight_77 : decode b_M_isRight 77 = .ok (.ireturn, 1) := by decide +kernel
theorem d_M_placeOf_0 : decode b_M_placeOf 0 = .ok (.iconst 0, 1) := by decide +kernel
theorem d_M_placeOf_1 : decode b_M_placeOf 1 = .ok (.istore_n 2, 1) := by decide +kernel
theorem d_M_placeOf_2 : decode b_M_placeOf 2 = .ok (.iconst 0, 1) := by decide +kernel
theorem d_M_placeOf_3 : decode b_M_placeOf 3 = .ok (.istore_n 3, 1) := by decide +kernel
theorem d_M_placeOf_4 : decode b_M_placeOf 4 = .ok (.iload_n 3, 1) := by decide +kernel
theorem d_M_placeOf_5 : decode b_M_placeOf 5 = .ok (.aload_n 0, 1) := by decide +kernel
theorem d_M_placeOf_6 : decode b_M_placeOf 6 = .ok (.getfield 52, 3) := by decide +kernel
theorem d_M_placeOf_9 : decode b_M_placeOf 9 = .ok (.if_icmp .ge (30), 3) := by decide +kernel
theorem d_M_placeOf_12 : decode b_M_placeOf 12 = .ok (.aload_n 0, 1) := by decide +kernel
theorem d_M_placeOf_13 : decode b_M_placeOf 13 = .ok (.iload_n 3, 1) := by decide +kernel
theorem d_M_placeOf_14 : decode b_M_placeOf 14 = .ok (.invokevirtual 124, 3) := by decide +kernel
theorem d_M_placeOf_17 : decode b_M_placeOf 17 = .ok (.ifCond .eq (6), 3) := by decide +kernel
theorem d_M_placeOf_20 : decode b_M_placeOf 20 = .ok (.goto (13), 3) := by decide +kernel
theorem d_M_placeOf_23 : decode b_M_placeOf 23 = .ok (.iinc 2 1, 3) := by decide +kernel
theorem d_M_placeOf_26 : decode b_M_placeOf 26 = .ok (.iload_n 2, 1) := by decide +kernel
theorem d_M_placeOf_27 : decode b_M_placeOf 27 = .ok (.iload_n 1, 1) := by decide +kernel
theorem d_M_placeOf_28 : decode b_M_placeOf 28 = .ok (.if_icmp .ne (5), 3) := by decide +kernel
theorem d_M_placeOf_31 : decode b_M_placeOf 31 = .ok (.iload_n 3, 1) := by decide +kernel
theorem d_M_placeOf_32 : decode b_M_placeOf 32 = .ok (.ireturn, 1) := by decide +kernel
theorem d_M_placeOf_33 : decode b_M_placeOf 33 = .ok (.iinc 3 1, 3) := by decide +kernel
theorem d_M_placeOf_36 : decode b_M_placeOf 36 = .ok (.goto (-32), 3) := by decide +kernel
theorem d_M_placeOf_39 : decode b_M_placeOf 39 = .ok (.iconst (-1), 1) := by decide +kernel
theorem d_M_placeOf_40 : decode b_M_placeOf 40 = .ok (.ireturn, 1) := by decide +kernel
theorem d_M_tickets_0 : decode b_M_tickets 0 = .ok (.iconst 0, 1) := by decide +kernel
theorem d_M_tickets_1 : decode b_M_tickets 1 = .ok (.istore_n 1, 1) := by decide +kernel
theorem d_M_tickets_2 : decode b_M_tickets 2 = .ok (.iconst 0, 1) := by decide +kernel
theorem d_M_tickets_3 : decode b_M_tickets 3 = .ok (.istore_n 2, 1) := by decide +kernel
theorem d_M_tickets_4 : decode b_M_tickets 4 = .ok (.iload_n 2, 1) := by decide +kernel
theorem d_M_tickets_5 : decode b_M_tickets 5 = .ok (.aload_n 0, 1) := by decide +kernel
theorem d_M_tickets_6 : decode b_M_tickets 6 = .ok (.getfield 52, 3) := by decide +kernel
theorem d_M_tickets_9 : decode b_M_tickets 9 = .ok (.if_icmp .ge (25), 3) := by decide +kernel
theorem d_M_tickets_12 : decode b_M_tickets 12 = .ok (.iload_n 1, 1) := by decide +kernel
theorem d_M_tickets_13 : decode b_M_tickets 13 = .ok (.aload_n 0, 1) := by decide +kernel
theorem d_M_tickets_14 : decode b_M_tickets 14 = .ok (.iload_n 2, 1) := by decide +kernel
theorem d_M_tickets_15 : decode b_M_tickets 15 = .ok (.invokevirtual 124, 3) := by decide +kernel
theorem d_M_tickets_18 : decode b_M_tickets 18 = .ok (.ifCond .eq (7), 3) := by decide +kernel
theorem d_M_tickets_21 : decode b_M_tickets 21 = .ok (.iconst 0, 1) := by decide +kernel
theorem d_M_tickets_22 : decode b_M_tickets 22 = .ok (.goto (4), 3) := by decide +kernel
theorem d_M_tickets_25 : decode b_M_tickets 25 = .ok (.iconst 1, 1) := by decide +kernel
theorem d_M_tickets_26 : decode b_M_tickets 26 = .ok (.iadd, 1) := by decide +kernel
theorem d_M_tickets_27 : decode b_M_tickets 27 = .ok (.istore_n 1, 1) := by decide +kernel
theorem d_M_tickets_28 : decode b_M_tickets 28 = .ok (.iinc 2 1, 3) := by decide +kernel
theorem d_M_tickets_31 : decode b_M_tickets 31 = .ok (.goto (-27), 3) := by decide +kernel
theorem d_M_tickets_34 : decode b_M_tickets 34 = .ok (.iload_n 1, 1) := by decide +kernel
theorem d_M_tickets_35 : decode b_M_tickets 35 = .ok (.ireturn, 1) := by decide +kernel
theorem d_M_durable_0 : decode b_M_durable 0 = .ok (.iconst 0, 1) := by decide +kernel
theorem d_M_durable_1 : decode b_M_durable 1 = .ok (.istore_n 1, 1) := by decide +kernel
theorem d_M_durable_2 : decode b_M_durable 2 = .ok (.iconst 0, 1) := by decide +kernel
theorem d_M_durable_3 : decode b_M_durable 3 = .ok (.istore_n 2, 1) := by decide +kernel
theorem d_M_durable_4 : decode b_M_durable 4 = .ok (.iload_n 2, 1) := by decide +kernel
theorem d_M_durable_5 : decode b_M_durable 5 = .ok (.bipush 16, 2) := by decide +kernel
theorem d_M_durable_7 : decode b_M_durable 7 = .ok (.if_icmp .ge (31), 3) := by decide +kernel
theorem d_M_durable_10 : decode b_M_durable 10 = .ok (.iload_n 1, 1) := by decide +kernel
theorem d_M_durable_11 : decode b_M_durable 11 = .ok (.aload_n 0, 1) := by decide +kernel
theorem d_M_durable_12 : decode b_M_durable 12 = .ok (.getfield 34, 3) := by decide +kernel
theorem d_M_durable_15 : decode b_M_durable 15 = .ok (.iload_n 2, 1) := by decide +kernel
theorem d_M_durable_16 : decode b_M_durable 16 = .ok (.iaload, 1) := by decide +kernel
theorem d_M_durable_17 : decode b_M_durable 17 = .ok (.ifCond .lt (12), 3) := by decide +kernel
theorem d_M_durable_20 : decode b_M_durable 20 = .ok (.aload_n 0, 1) := by decide +kernel
theorem d_M_durable_21 : decode b_M_durable 21 = .ok (.getfield 37, 3) := by decide +kernel
theorem d_M_durable_24 : decode b_M_durable 24 = .ok (.iload_n 2, 1) := by decide +kernel
theorem d_M_durable_25 : decode b_M_durable 25 = .ok (.iaload, 1) := by decide +kernel
theorem d_M_durable_26 : decode b_M_durable 26 = .ok (.goto (4), 3) := by decide +kernel
theorem d_M_durable_29 : decode b_M_durable 29 = .ok (.iconst 0, 1) := by decide +kernel
theorem d_M_durable_30 : decode b_M_durable 30 = .ok (.iadd, 1) := by decide +kernel
theorem d_M_durable_31 : decode b_M_durable 31 = .ok (.istore_n 1, 1) := by decide +kernel
theorem d_M_durable_32 : decode b_M_durable 32 = .ok (.iinc 2 1, 3) := by decide +kernel
theorem d_M_durable_35 : decode b_M_durable 35 = .ok (.goto (-31), 3) := by decide +kernel
theorem d_M_durable_38 : decode b_M_durable 38 = .ok (.iload_n 1, 1) := by decide +kernel
theorem d_M_durable_39 : decode b_M_durable 39 = .ok (.ireturn, 1) := by decide +kernel
theorem d_M_liveCount_0 : decode b_M_liveCount 0 = .ok (.iconst 0, 1) := by decide +kernel
theorem d_M_liveCount_1 : decode b_M_liveCount 1 = .ok (.istore_n 1, 1) := by decide +kernel
theorem d_M_liveCount_2 : decode b_M_liveCount 2 = .ok (.iconst 0, 1) := by decide +kernel
theorem d_M_liveCount_3 : decode b_M_liveCount 3 = .ok (.istore_n 2, 1) := by decide +kernel
theorem d_M_liveCount_4 : decode b_M_liveCount 4 = .ok (.iload_n 2, 1) := by decide +kernel
theorem d_M_liveCount_5 : decode b_M_liveCount 5 = .ok (.bipush 16, 2) := by decide +kernel
theorem d_M_liveCount_7 : decode b_M_liveCount 7 = .ok (.if_icmp .ge (26), 3) := by decide +kernel
theorem d_M_liveCount_10 : decode b_M_liveCount 10 = .ok (.iload_n 1, 1) := by decide +kernel
theorem d_M_liveCount_11 : decode b_M_liveCount 11 = .ok (.aload_n 0, 1) := by decide +kernel
theorem d_M_liveCount_12 : decode b_M_liveCount 12 = .ok (.getfield 34, 3) := by decide +kernel
theorem d_M_liveCount_15 : decode b_M_liveCount 15 = .ok (.iload_n 2, 1) := by decide +kernel
theorem d_M_liveCount_16 : decode b_M_liveCount 16 = .ok (.iaload, 1) := by decide +kernel
theorem d_M_liveCount_17 : decode b_M_liveCount 17 = .ok (.ifCond .lt (7), 3) := by decide +kernel
theorem d_M_liveCount_20 : decode b_M_liveCount 20 = .ok (.iconst 1, 1) := by decide +kernel
theorem d_M_liveCount_21 : decode b_M_liveCount 21 = .ok (.goto (4), 3) := by decide +kernel
theorem d_M_liveCount_24 : decode b_M_liveCount 24 = .ok (.iconst 0, 1) := by decide +kernel
theorem d_M_liveCount_25 : decode b_M_liveCount 25 = .ok (.iadd, 1) := by decide +kernel
theorem d_M_liveCount_26 : decode b_M_liveCount 26 = .ok (.istore_n 1, 1) := by decide +kernel
theorem d_M_liveCount_27 : decode b_M_liveCount 27 = .ok (.iinc 2 1, 3) := by decide +kernel
theorem d_M_liveCount_30 : decode b_M_liveCount 30 = .ok (.goto (-26), 3) := by decide +kernel
theorem d_M_liveCount_33 : decode b_M_liveCount 33 = .ok (.iload_n 1, 1) := by decide +kernel
theorem d_M_liveCount_34 : decode b_M_liveCount 34 = .ok (.ireturn, 1) := by decide +kernel
theorem d_M_freePages_0 : decode b_M_freePages 0 = .ok (.iconst 0, 1) := by decide +kernel
theorem d_M_freePages_1 : decode b_M_freePages 1 = .ok (.istore_n 1, 1) := by decide +kernel
theorem d_M_freePages_2 : decode b_M_freePages 2 = .ok (.iconst 0, 1) := by decide +kernel
theorem d_M_freePages_3 : decode b_M_freePages 3 = .ok (.istore_n 2, 1) := by decide +kernel
theorem d_M_freePages_4 : decode b_M_freePages 4 = .ok (.iload_n 2, 1) := by decide +kernel
theorem d_M_freePages_5 : decode b_M_freePages 5 = .ok (.bipush 32, 2) := by decide +kernel
theorem d_M_freePages_7 : decode b_M_freePages 7 = .ok (.if_icmp .ge (36), 3) := by decide +kernel
theorem d_M_freePages_10 : decode b_M_freePages 10 = .ok (.iload_n 1, 1) := by decide +kernel
theorem d_M_freePages_11 : decode b_M_freePages 11 = .ok (.aload_n 0, 1) := by decide +kernel
theorem d_M_freePages_12 : decode b_M_freePages 12 = .ok (.iload_n 2, 1) := by decide +kernel
theorem d_M_freePages_13 : decode b_M_freePages 13 = .ok (.invokevirtual 80, 3) := by decide +kernel
theorem d_M_freePages_16 : decode b_M_freePages 16 = .ok (.ifCond .eq (18), 3) := by decide +kernel
theorem d_M_freePages_19 : decode b_M_freePages 19 = .ok (.aload_n 0, 1) := by decide +kernel
theorem d_M_freePages_20 : decode b_M_freePages 20 = .ok (.getfield 16, 3) := by decide +kernel
theorem d_M_freePages_23 : decode b_M_freePages 23 = .ok (.iload_n 2, 1) := by decide +kernel
theorem d_M_freePages_24 : decode b_M_freePages 24 = .ok (.iconst 4, 1) := by decide +kernel
theorem d_M_freePages_25 : decode b_M_freePages 25 = .ok (.idiv, 1) := by decide +kernel
theorem d_M_freePages_26 : decode b_M_freePages 26 = .ok (.baload, 1) := by decide +kernel
theorem d_M_freePages_27 : decode b_M_freePages 27 = .ok (.ifCond .ne (7), 3) := by decide +kernel
theorem d_M_freePages_30 : decode b_M_freePages 30 = .ok (.iconst 1, 1) := by decide +kernel
theorem d_M_freePages_31 : decode b_M_freePages 31 = .ok (.goto (4), 3) := by decide +kernel
theorem d_M_freePages_34 : decode b_M_freePages 34 = .ok (.iconst 0, 1) := by decide +kernel
theorem d_M_freePages_35 : decode b_M_freePages 35 = .ok (.iadd, 1) := by decide +kernel
theorem d_M_freePages_36 : decode b_M_freePages 36 = .ok (.istore_n 1, 1) := by decide +kernel
theorem d_M_freePages_37 : decode b_M_freePages 37 = .ok (.iinc 2 1, 3) := by decide +kernel
theorem d_M_freePages_40 : decode b_M_freePages 40 = .ok (.goto (-36), 3) := by decide +kernel
theorem d_M_freePages_43 : decode b_M_freePages 43 = .ok (.iload_n 1, 1) := by decide +kernel
theorem d_M_freePages_44 : decode b_M_freePages 44 = .ok (.ireturn, 1) := by decide +kernel
theorem d_M_latest_0 : decode b_M_latest 0 = .ok (.iconst (-1), 1) := by decide +kernel
theorem d_M_latest_1 : decode b_M_latest 1 = .ok (.istore_n 2, 1) := by decide +kernel
theorem d_M_latest_2 : decode b_M_latest 2 = .ok (.iconst 0, 1) := by decide +kernel
theorem d_M_latest_3 : decode b_M_latest 3 = .ok (.istore_n 3, 1) := by decide +kernel
theorem d_M_latest_4 : decode b_M_latest 4 = .ok (.iload_n 3, 1) := by decide +kernel
theorem d_M_latest_5 : decode b_M_latest 5 = .ok (.bipush 32, 2) := by decide +kernel
theorem d_M_latest_7 : decode b_M_latest 7 = .ok (.if_icmp .ge (67), 3) := by decide +kernel
theorem d_M_latest_10 : decode b_M_latest 10 = .ok (.aload_n 0, 1) := by decide +kernel
theorem d_M_latest_11 : decode b_M_latest 11 = .ok (.iload_n 3, 1) := by decide +kernel
theorem d_M_latest_12 : decode b_M_latest 12 = .ok (.invokevirtual 163, 3) := by decide +kernel
theorem d_M_latest_15 : decode b_M_latest 15 = .ok (.ifCond .eq (53), 3) := by decide +kernel
theorem d_M_latest_18 : decode b_M_latest 18 = .ok (.iload_n 1, 1) := by decide +kernel
theorem d_M_latest_19 : decode b_M_latest 19 = .ok (.ifCond .lt (18), 3) := by decide +kernel
theorem d_M_latest_22 : decode b_M_latest 22 = .ok (.aload_n 0, 1) := by decide +kernel
theorem d_M_latest_23 : decode b_M_latest 23 = .ok (.getfield 7, 3) := by decide +kernel
theorem d_M_latest_26 : decode b_M_latest 26 = .ok (.bipush 16, 2) := by decide +kernel
theorem d_M_latest_28 : decode b_M_latest 28 = .ok (.iload_n 3, 1) := by decide +kernel
theorem d_M_latest_29 : decode b_M_latest 29 = .ok (.imul, 1) := by decide +kernel
theorem d_M_latest_30 : decode b_M_latest 30 = .ok (.iaload, 1) := by decide +kernel
theorem d_M_latest_31 : decode b_M_latest 31 = .ok (.iconst 4, 1) := by decide +kernel
theorem d_M_latest_32 : decode b_M_latest 32 = .ok (.idiv, 1) := by decide +kernel
theorem d_M_latest_33 : decode b_M_latest 33 = .ok (.iload_n 1, 1) := by decide +kernel
theorem d_M_latest_34 : decode b_M_latest 34 = .ok (.if_icmp .ne (34), 3) := by decide +kernel
theorem d_M_latest_37 : decode b_M_latest 37 = .ok (.iload_n 2, 1) := by decide +kernel
theorem d_M_latest_38 : decode b_M_latest 38 = .ok (.ifCond .lt (28), 3) := by decide +kernel
theorem d_M_latest_41 : decode b_M_latest 41 = .ok (.aload_n 0, 1) := by decide +kernel
theorem d_M_latest_42 : decode b_M_latest 42 = .ok (.getfield 7, 3) := by decide +kernel
theorem d_M_latest_45 : decode b_M_latest 45 = .ok (.bipush 16, 2) := by decide +kernel
theorem d_M_latest_47 : decode b_M_latest 47 = .ok (.iload_n 3, 1) := by decide +kernel
theorem d_M_latest_48 : decode b_M_latest 48 = .ok (.imul, 1) := by decide +kernel
theorem d_M_latest_49 : decode b_M_latest 49 = .ok (.iconst 1, 1) := by decide +kernel
theorem d_M_latest_50 : decode b_M_latest 50 = .ok (.iadd, 1) := by decide +kernel
theorem d_M_latest_51 : decode b_M_latest 51 = .ok (.iaload, 1) := by decide +kernel
theorem d_M_latest_52 : decode b_M_latest 52 = .ok (.aload_n 0, 1) := by decide +kernel
theorem d_M_latest_53 : decode b_M_latest 53 = .ok (.getfield 7, 3) := by decide +kernel
theorem d_M_latest_56 : decode b_M_latest 56 = .ok (.bipush 16, 2) := by decide +kernel
theorem d_M_latest_58 : decode b_M_latest 58 = .ok (.iload_n 2, 1) := by decide +kernel
theorem d_M_latest_59 : decode b_M_latest 59 = .ok (.imul, 1) := by decide +kernel
theorem d_M_latest_60 : decode b_M_latest 60 = .ok (.iconst 1, 1) := by decide +kernel
theorem d_M_latest_61 : decode b_M_latest 61 = .ok (.iadd, 1) := by decide +kernel
theorem d_M_latest_62 : decode b_M_latest 62 = .ok (.iaload, 1) := by decide +kernel
theorem d_M_latest_63 : decode b_M_latest 63 = .ok (.if_icmp .le (5), 3) := by decide +kernel
theorem d_M_latest_66 : decode b_M_latest 66 = .ok (.iload_n 3, 1) := by decide +kernel
theorem d_M_latest_67 : decode b_M_latest 67 = .ok (.istore_n 2, 1) := by decide +kernel
theorem d_M_latest_68 : decode b_M_latest 68 = .ok (.iinc 3 1, 3) := by decide +kernel
theorem d_M_latest_71 : decode b_M_latest 71 = .ok (.goto (-67), 3) := by decide +kernel
theorem d_M_latest_74 : decode b_M_latest 74 = .ok (.iload_n 2, 1) := by decide +kernel
theorem d_M_latest_75 : decode b_M_latest 75 = .ok (.ireturn, 1) := by decide +kernel
theorem d_M_axle_0 : decode b_M_axle 0 = .ok (.aload_n 0, 1) := by decide +kernel
theorem d_M_axle_1 : decode b_M_axle 1 = .ok (.iconst 1, 1) := by decide +kernel
theorem d_M_axle_2 : decode b_M_axle 2 = .ok (.iload_n 1, 1) := by decide +kernel
theorem d_M_axle_3 : decode b_M_axle 3 = .ok (.iconst 1, 1) := by decide +kernel
theorem d_M_axle_4 : decode b_M_axle 4 = .ok (.sipush 1200, 3) := by decide +kernel
theorem d_M_axle_7 : decode b_M_axle 7 = .ok (.invokestatic 130, 3) := by decide +kernel
theorem d_M_axle_10 : decode b_M_axle 10 = .ok (.ifCond .ne (7), 3) := by decide +kernel
theorem d_M_axle_13 : decode b_M_axle 13 = .ok (.iconst 1, 1) := by decide +kernel
theorem d_M_axle_14 : decode b_M_axle 14 = .ok (.goto (4), 3) := by decide +kernel
theorem d_M_axle_17 : decode b_M_axle 17 = .ok (.iconst 0, 1) := by decide +kernel
theorem d_M_axle_18 : decode b_M_axle 18 = .ok (.invokevirtual 137, 3) := by decide +kernel
theorem d_M_axle_21 : decode b_M_axle 21 = .ok (.ifCond .ne (32), 3) := by decide +kernel
theorem d_M_axle_24 : decode b_M_axle 24 = .ok (.aload_n 0, 1) := by decide +kernel
theorem d_M_axle_25 : decode b_M_axle 25 = .ok (.iconst 2, 1) := by decide +kernel
theorem d_M_axle_26 : decode b_M_axle 26 = .ok (.aload_n 0, 1) := by decide +kernel
theorem d_M_axle_27 : decode b_M_axle 27 = .ok (.getfield 23, 3) := by decide +kernel
theorem d_M_axle_30 : decode b_M_axle 30 = .ok (.ifCond .eq (12), 3) := by decide +kernel
theorem d_M_axle_33 : decode b_M_axle 33 = .ok (.aload_n 0, 1) := by decide +kernel
theorem d_M_axle_34 : decode b_M_axle 34 = .ok (.getfield 58, 3) := by decide +kernel
theorem d_M_axle_37 : decode b_M_axle 37 = .ok (.bipush 9, 2) := by decide +kernel
theorem d_M_axle_39 : decode b_M_axle 39 = .ok (.if_icmp .ne (7), 3) := by decide +kernel
theorem d_M_axle_42 : decode b_M_axle 42 = .ok (.iconst 1, 1) := by decide +kernel
theorem d_M_axle_43 : decode b_M_axle 43 = .ok (.goto (4), 3) := by decide +kernel
theorem d_M_axle_46 : decode b_M_axle 46 = .ok (.iconst 0, 1) := by decide +kernel
theorem d_M_axle_47 : decode b_M_axle 47 = .ok (.invokevirtual 137, 3) := by decide +kernel
theorem d_M_axle_50 : decode b_M_axle 50 = .ok (.ifCond .eq (5), 3) := by decide +kernel
theorem d_M_axle_53 : decode b_M_axle 53 = .ok (.iconst 0, 1) := by decide +kernel
theorem d_M_axle_54 : decode b_M_axle 54 = .ok (.ireturn, 1) := by decide +kernel
theorem d_M_axle_55 : decode b_M_axle 55 = .ok (.aload_n 0, 1) := by decide +kernel
theorem d_M_axle_56 : decode b_M_axle 56 = .ok (.dup, 1) := by decide +kernel
theorem d_M_axle_57 : decode b_M_axle 57 = .ok (.getfield 58, 3) := by decide +kernel
theorem d_M_axle_60 : decode b_M_axle 60 = .ok (.iconst 1, 1) := by decide +kernel
theorem d_M_axle_61 : decode b_M_axle 61 = .ok (.iadd, 1) := by decide +kernel
theorem d_M_axle_62 : decode b_M_axle 62 = .ok (.putfield 58, 3) := by decide +kernel
theorem d_M_axle_65 : decode b_M_axle 65 = .ok (.aload_n 0, 1) := by decide +kernel
theorem d_M_axle_66 : decode b_M_axle 66 = .ok (.dup, 1) := by decide +kernel
theorem d_M_axle_67 : decode b_M_axle 67 = .ok (.getfield 61, 3) := by decide +kernel
theorem d_M_axle_70 : decode b_M_axle 70 = .ok (.iload_n 1, 1) := by decide +kernel
theorem d_M_axle_71 : decode b_M_axle 71 = .ok (.iadd, 1) := by decide +kernel
theorem d_M_axle_72 : decode b_M_axle 72 = .ok (.putfield 61, 3) := by decide +kernel
theorem d_M_axle_75 : decode b_M_axle 75 = .ok (.aload_n 0, 1) := by decide +kernel
theorem d_M_axle_76 : decode b_M_axle 76 = .ok (.getfield 58, 3) := by decide +kernel
theorem d_M_axle_79 : decode b_M_axle 79 = .ok (.ireturn, 1) := by decide +kernel
theorem d_M_close_0 : decode b_M_close 0 = .ok (.iload_n 2, 1) := by decide +kernel
theorem d_M_close_1 : decode b_M_close 1 = .ok (.iconst 0, 1) := by decide +kernel
theorem d_M_close_2 : decode b_M_close 2 = .ok (.ldc 141, 2) := by decide +kernel
theorem d_M_close_4 : decode b_M_close 4 = .ok (.invokestatic 130, 3) := by decide +kernel
theorem d_M_close_7 : decode b_M_close 7 = .ok (.ifCond .eq (28), 3) := by decide +kernel
theorem d_M_close_10 : decode b_M_close 10 = .ok (.iload_n 3, 1) := by decide +kernel
theorem d_M_close_11 : decode b_M_close 11 = .ok (.iconst 0, 1) := by decide +kernel
theorem d_M_close_12 : decode b_M_close 12 = .ok (.bipush 39, 2) := by decide +kernel
theorem d_M_close_14 : decode b_M_close 14 = .ok (.invokestatic 130, 3) := by decide +kernel
theorem d_M_close_17 : decode b_M_close 17 = .ok (.ifCond .eq (18), 3) := by decide +kernel
theorem d_M_close_20 : decode b_M_close 20 = .ok (.iload 4, 2) := by decide +kernel
theorem d_M_close_22 : decode b_M_close 22 = .ok (.iconst 0, 1) := by decide +kernel
theorem d_M_close_23 : decode b_M_close 23 = .ok (.ldc 142, 2) := by decide +kernel
theorem d_M_close_25 : decode b_M_close 25 = .ok (.invokestatic 130, 3) := by decide +kernel
theorem d_M_close_28 : decode b_M_close 28 = .ok (.ifCond .eq (7), 3) := by decide +kernel
theorem d_M_close_31 : decode b_M_close 31 = .ok (.iconst 1, 1) := by decide +kernel
theorem d_M_close_32 : decode b_M_close 32 = .ok (.goto (4), 3) := by decide +kernel
theorem d_M_close_35 : decode b_M_close 35 = .ok (.iconst 0, 1) := by decide +kernel
theorem d_M_close_36 : decode b_M_close 36 = .ok (.istore 5, 2) := by decide +kernel
theorem d_M_close_38 : decode b_M_close 38 = .ok (.aload_n 0, 1) := by decide +kernel
theorem d_M_close_39 : decode b_M_close 39 = .ok (.iconst 1, 1) := by decide +kernel
theorem d_M_close_40 : decode b_M_close 40 = .ok (.iload 5, 2) := by decide +kernel
theorem d_M_close_42 : decode b_M_close 42 = .ok (.ifCond .ne (7), 3) := by decide +kernel
theorem d_M_close_45 : decode b_M_close 45 = .ok (.iconst 1, 1) := by decide +kernel
theorem d_M_close_46 : decode b_M_close 46 = .ok (.goto (4), 3) := by decide +kernel
theorem d_M_close_49 : decode b_M_close 49 = .ok (.iconst 0, 1) := by decide +kernel
theorem d_M_close_50 : decode b_M_close 50 = .ok (.invokevirtual 137, 3) := by decide +kernel
theorem d_M_close_53 : decode b_M_close 53 = .ok (.ifCond .ne (23), 3) := by decide +kernel
theorem d_M_close_56 : decode b_M_close 56 = .ok (.aload_n 0, 1) := by decide +kernel
theorem d_M_close_57 : decode b_M_close 57 = .ok (.iconst 2, 1) := by decide +kernel
theorem d_M_close_58 : decode b_M_close 58 = .ok (.aload_n 0, 1) := by decide +kernel
theorem d_M_close_59 : decode b_M_close 59 = .ok (.getfield 23, 3) := by decide +kernel
theorem d_M_close_62 : decode b_M_close 62 = .ok (.ifCond .ne (7), 3) := by decide +kernel
theorem d_M_close_65 : decode b_M_close 65 = .ok (.iconst 1, 1) := by decide +kernel
theorem d_M_close_66 : decode b_M_close 66 = .ok (.goto (4), 3) := by decide +kernel
theorem d_M_close_69 : decode b_M_close 69 = .ok (.iconst 0, 1) := by decide +kernel
theorem d_M_close_70 : decode b_M_close 70 = .ok (.invokevirtual 137, 3) := by decide +kernel
theorem d_M_close_73 : decode b_M_close 73 = .ok (.ifCond .eq (5), 3) := by decide +kernel
theorem d_M_close_76 : decode b_M_close 76 = .ok (.iconst 0, 1) := by decide +kernel
theorem d_M_close_77 : decode b_M_close 77 = .ok (.ireturn, 1) := by decide +kernel
theorem d_M_close_78 : decode b_M_close 78 = .ok (.aload_n 0, 1) := by decide +kernel
theorem d_M_close_79 : decode b_M_close 79 = .ok (.getfield 58, 3) := by decide +kernel
theorem d_M_close_82 : decode b_M_close 82 = .ok (.ifCond .eq (32), 3) := by decide +kernel
theorem d_M_close_85 : decode b_M_close 85 = .ok (.aload_n 0, 1) := by decide +kernel
theorem d_M_close_86 : decode b_M_close 86 = .ok (.getfield 20, 3) := by decide +kernel
theorem d_M_close_89 : decode b_M_close 89 = .ok (.iload_n 3, 1) := by decide +kernel
theorem d_M_close_90 : decode b_M_close 90 = .ok (.baload, 1) := by decide +kernel
theorem d_M_close_91 : decode b_M_close 91 = .ok (.ifCond .eq (23), 3) := by decide +kernel
theorem d_M_close_94 : decode b_M_close 94 = .ok (.iload_n 2, 1) := by decide +kernel
theorem d_M_close_95 : decode b_M_close 95 = .ok (.bipush 20, 2) := by decide +kernel
theorem d_M_close_97 : decode b_M_close 97 = .ok (.aload_n 0, 1) := by decide +kernel
theorem d_M_close_98 : decode b_M_close 98 = .ok (.getfield 61, 3) := by decide +kernel
theorem d_M_close_101 : decode b_M_close 101 = .ok (.imul, 1) := by decide +kernel
theorem d_M_close_102 : decode b_M_close 102 = .ok (.if_icmp .gt (12), 3) := by decide +kernel
theorem d_M_close_105 : decode b_M_close 105 = .ok (.aload_n 0, 1) := by decide +kernel
theorem d_M_close_106 : decode b_M_close 106 = .ok (.getfield 52, 3) := by decide +kernel
theorem d_M_close_109 : decode b_M_close 109 = .ok (.bipush 48, 2) := by decide +kernel
theorem d_M_close_111 : decode b_M_close 111 = .ok (.if_icmp .ne (5), 3) := by decide +kernel
theorem d_M_close_114 : decode b_M_close 114 = .ok (.iconst 0, 1) := by decide +kernel
theorem d_M_close_115 : decode b_M_close 115 = .ok (.ireturn, 1) := by decide +kernel
theorem d_M_close_116 : decode b_M_close 116 = .ok (.aload_n 0, 1) := by decide +kernel
theorem d_M_close_117 : decode b_M_close 117 = .ok (.iload_n 1, 1) := by decide +kernel
theorem d_M_close_118 : decode b_M_close 118 = .ok (.ldc 143, 2) := by decide +kernel
theorem d_M_close_120 : decode b_M_close 120 = .ok (.aload_n 0, 1) := by decide +kernel
theorem d_M_close_121 : decode b_M_close 121 = .ok (.getfield 61, 3) := by decide +kernel
theorem d_M_close_124 : decode b_M_close 124 = .ok (.imul, 1) := by decide +kernel
theorem d_M_close_125 : decode b_M_close 125 = .ok (.iload_n 2, 1) := by decide +kernel
theorem d_M_close_126 : decode b_M_close 126 = .ok (.iadd, 1) := by decide +kernel
theorem d_M_close_127 : decode b_M_close 127 = .ok (.ldc 144, 2) := by decide +kernel
theorem d_M_close_129 : decode b_M_close 129 = .ok (.iload_n 3, 1) := by decide +kernel
theorem d_M_close_130 : decode b_M_close 130 = .ok (.imul, 1) := by decide +kernel
theorem d_M_close_131 : decode b_M_close 131 = .ok (.iload 4, 2) := by decide +kernel
theorem d_M_close_133 : decode b_M_close 133 = .ok (.iadd, 1) := by decide +kernel
theorem d_M_close_134 : decode b_M_close 134 = .ok (.invokevirtual 145, 3) := by decide +kernel
theorem d_M_close_137 : decode b_M_close 137 = .ok (.istore 6, 2) := by decide +kernel
theorem d_M_close_139 : decode b_M_close 139 = .ok (.iload 6, 2) := by decide +kernel
theorem d_M_close_141 : decode b_M_close 141 = .ok (.ifCond .eq (6), 3) := by decide +kernel
theorem d_M_close_144 : decode b_M_close 144 = .ok (.iload 6, 2) := by decide +kernel
theorem d_M_close_146 : decode b_M_close 146 = .ok (.ireturn, 1) := by decide +kernel
theorem d_M_close_147 : decode b_M_close 147 = .ok (.aload_n 0, 1) := by decide +kernel
theorem d_M_close_148 : decode b_M_close 148 = .ok (.iconst 0, 1) := by decide +kernel
theorem d_M_close_149 : decode b_M_close 149 = .ok (.putfield 58, 3) := by decide +kernel
theorem d_M_close_152 : decode b_M_close 152 = .ok (.aload_n 0, 1) := by decide +kernel
theorem d_M_close_153 : decode b_M_close 153 = .ok (.iconst 0, 1) := by decide +kernel
theorem d_M_close_154 : decode b_M_close 154 = .ok (.putfield 61, 3) := by decide +kernel
theorem d_M_close_157 : decode b_M_close 157 = .ok (.aload_n 0, 1) := by decide +kernel
theorem d_M_close_158 : decode b_M_close 158 = .ok (.invokevirtual 149, 3) := by decide +kernel
theorem d_M_close_161 : decode b_M_close 161 = .ok (.ireturn, 1) := by decide +kernel
theorem d_M_annul_0 : decode b_M_annul 0 = .ok (.aload_n 0, 1) := by decide +kernel
theorem d_M_annul_1 : decode b_M_annul 1 = .ok (.iconst 1, 1) := by decide +kernel
theorem d_M_annul_2 : decode b_M_annul 2 = .ok (.iload_n 2, 1) := by decide +kernel
theorem d_M_annul_3 : decode b_M_annul 3 = .ok (.iconst 0, 1) := by decide +kernel
theorem d_M_annul_4 : decode b_M_annul 4 = .ok (.iconst 3, 1) := by decide +kernel
theorem d_M_annul_5 : decode b_M_annul 5 = .ok (.invokestatic 130, 3) := by decide +kernel
theorem d_M_annul_8 : decode b_M_annul 8 = .ok (.ifCond .ne (7), 3) := by decide +kernel
theorem d_M_annul_11 : decode b_M_annul 11 = .ok (.iconst 1, 1) := by decide +kernel
theorem d_M_annul_12 : decode b_M_annul 12 = .ok (.goto (4), 3) := by decide +kernel
theorem d_M_annul_15 : decode b_M_annul 15 = .ok (.iconst 0, 1) := by decide +kernel
theorem d_M_annul_16 : decode b_M_annul 16 = .ok (.invokevirtual 137, 3) := by decide +kernel
theorem d_M_annul_19 : decode b_M_annul 19 = .ok (.ifCond .ne (23), 3) := by decide +kernel
theorem d_M_annul_22 : decode b_M_annul 22 = .ok (.aload_n 0, 1) := by decide +kernel
theorem d_M_annul_23 : decode b_M_annul 23 = .ok (.iconst 2, 1) := by decide +kernel
theorem d_M_annul_24 : decode b_M_annul 24 = .ok (.aload_n 0, 1) := by decide +kernel
theorem d_M_annul_25 : decode b_M_annul 25 = .ok (.getfield 23, 3) := by decide +kernel
theorem d_M_annul_28 : decode b_M_annul 28 = .ok (.ifCond .ne (7), 3) := by decide +kernel
theorem d_M_annul_31 : decode b_M_annul 31 = .ok (.iconst 1, 1) := by decide +kernel
theorem d_M_annul_32 : decode b_M_annul 32 = .ok (.goto (4), 3) := by decide +kernel
theorem d_M_annul_35 : decode b_M_annul 35 = .ok (.iconst 0, 1) := by decide +kernel
theorem d_M_annul_36 : decode b_M_annul 36 = .ok (.invokevirtual 137, 3) := by decide +kernel
theorem d_M_annul_39 : decode b_M_annul 39 = .ok (.ifCond .eq (5), 3) := by decide +kernel
theorem d_M_annul_42 : decode b_M_annul 42 = .ok (.iconst 0, 1) := by decide +kernel
theorem d_M_annul_43 : decode b_M_annul 43 = .ok (.ireturn, 1) := by decide +kernel
theorem d_M_annul_44 : decode b_M_annul 44 = .ok (.iload_n 1, 1) := by decide +kernel
theorem d_M_annul_45 : decode b_M_annul 45 = .ok (.iconst 1, 1) := by decide +kernel
theorem d_M_annul_46 : decode b_M_annul 46 = .ok (.if_icmp .lt (28), 3) := by decide +kernel
theorem d_M_annul_49 : decode b_M_annul 49 = .ok (.aload_n 0, 1) := by decide +kernel
theorem d_M_annul_50 : decode b_M_annul 50 = .ok (.iload_n 1, 1) := by decide +kernel
theorem d_M_annul_51 : decode b_M_annul 51 = .ok (.invokevirtual 127, 3) := by decide +kernel
theorem d_M_annul_54 : decode b_M_annul 54 = .ok (.ifCond .lt (20), 3) := by decide +kernel
theorem d_M_annul_57 : decode b_M_annul 57 = .ok (.aload_n 0, 1) := by decide +kernel
theorem d_M_annul_58 : decode b_M_annul 58 = .ok (.iload_n 1, 1) := by decide +kernel
theorem d_M_annul_59 : decode b_M_annul 59 = .ok (.invokevirtual 152, 3) := by decide +kernel
theorem d_M_annul_62 : decode b_M_annul 62 = .ok (.ifCond .gt (12), 3) := by decide +kernel
theorem d_M_annul_65 : decode b_M_annul 65 = .ok (.aload_n 0, 1) := by decide +kernel
theorem d_M_annul_66 : decode b_M_annul 66 = .ok (.getfield 52, 3) := by decide +kernel
theorem d_M_annul_69 : decode b_M_annul 69 = .ok (.bipush 48, 2) := by decide +kernel
theorem d_M_annul_71 : decode b_M_annul 71 = .ok (.if_icmp .ne (5), 3) := by decide +kernel
theorem d_M_annul_74 : decode b_M_annul 74 = .ok (.iconst 0, 1) := by decide +kernel
theorem d_M_annul_75 : decode b_M_annul 75 = .ok (.ireturn, 1) := by decide +kernel
theorem d_M_annul_76 : decode b_M_annul 76 = .ok (.aload_n 0, 1) := by decide +kernel
theorem d_M_annul_77 : decode b_M_annul 77 = .ok (.iload_n 1, 1) := by decide +kernel
theorem d_M_annul_78 : decode b_M_annul 78 = .ok (.iload_n 2, 1) := by decide +kernel
theorem d_M_annul_79 : decode b_M_annul 79 = .ok (.ldc 155, 2) := by decide +kernel
theorem d_M_annul_81 : decode b_M_annul 81 = .ok (.invokevirtual 145, 3) := by decide +kernel
theorem d_M_annul_84 : decode b_M_annul 84 = .ok (.istore_n 3, 1) := by decide +kernel
theorem d_M_annul_85 : decode b_M_annul 85 = .ok (.iload_n 3, 1) := by decide +kernel
theorem d_M_annul_86 : decode b_M_annul 86 = .ok (.ifCond .ne (7), 3) := by decide +kernel
theorem d_M_annul_89 : decode b_M_annul 89 = .ok (.iconst 1, 1) := by decide +kernel
theorem d_M_annul_90 : decode b_M_annul 90 = .ok (.goto (4), 3) := by decide +kernel
theorem d_M_annul_93 : decode b_M_annul 93 = .ok (.iload_n 3, 1) := by decide +kernel
theorem d_M_annul_94 : decode b_M_annul 94 = .ok (.ireturn, 1) := by decide +kernel
theorem d_M_sync_0 : decode b_M_sync 0 = .ok (.aload_n 0, 1) := by decide +kernel
theorem d_M_sync_1 : decode b_M_sync 1 = .ok (.iconst 1, 1) := by decide +kernel
theorem d_M_sync_2 : decode b_M_sync 2 = .ok (.aload_n 0, 1) := by decide +kernel
theorem d_M_sync_3 : decode b_M_sync 3 = .ok (.getfield 23, 3) := by decide +kernel
theorem d_M_sync_6 : decode b_M_sync 6 = .ok (.ifCond .ne (7), 3) := by decide +kernel
theorem d_M_sync_9 : decode b_M_sync 9 = .ok (.iconst 1, 1) := by decide +kernel
theorem d_M_sync_10 : decode b_M_sync 10 = .ok (.goto (4), 3) := by decide +kernel
theorem d_M_sync_13 : decode b_M_sync 13 = .ok (.iconst 0, 1) := by decide +kernel
theorem d_M_sync_14 : decode b_M_sync 14 = .ok (.invokevirtual 137, 3) := by decide +kernel
theorem d_M_sync_17 : decode b_M_sync 17 = .ok (.ifCond .eq (5), 3) := by decide +kernel
theorem d_M_sync_20 : decode b_M_sync 20 = .ok (.iconst 0, 1) := by decide +kernel
theorem d_M_sync_21 : decode b_M_sync 21 = .ok (.ireturn, 1) := by decide +kernel
theorem d_M_sync_22 : decode b_M_sync 22 = .ok (.aload_n 0, 1) := by decide +kernel
theorem d_M_sync_23 : decode b_M_sync 23 = .ok (.invokevirtual 156, 3) := by decide +kernel
theorem d_M_sync_26 : decode b_M_sync 26 = .ok (.aload_n 0, 1) := by decide +kernel
theorem d_M_sync_27 : decode b_M_sync 27 = .ok (.getfield 52, 3) := by decide +kernel
theorem d_M_sync_30 : decode b_M_sync 30 = .ok (.if_icmp .ne (5), 3) := by decide +kernel
theorem d_M_sync_33 : decode b_M_sync 33 = .ok (.iconst 1, 1) := by decide +kernel
theorem d_M_sync_34 : decode b_M_sync 34 = .ok (.ireturn, 1) := by decide +kernel
theorem d_M_sync_35 : decode b_M_sync 35 = .ok (.aload_n 0, 1) := by decide +kernel
theorem d_M_sync_36 : decode b_M_sync 36 = .ok (.getfield 52, 3) := by decide +kernel
theorem d_M_sync_39 : decode b_M_sync 39 = .ok (.iconst 1, 1) := by decide +kernel
theorem d_M_sync_40 : decode b_M_sync 40 = .ok (.isub, 1) := by decide +kernel
theorem d_M_sync_41 : decode b_M_sync 41 = .ok (.iconst 3, 1) := by decide +kernel
theorem d_M_sync_42 : decode b_M_sync 42 = .ok (.idiv, 1) := by decide +kernel
theorem d_M_sync_43 : decode b_M_sync 43 = .ok (.istore_n 1, 1) := by decide +kernel
theorem d_M_sync_44 : decode b_M_sync 44 = .ok (.aload_n 0, 1) := by decide +kernel
theorem d_M_sync_45 : decode b_M_sync 45 = .ok (.iload_n 1, 1) := by decide +kernel
theorem d_M_sync_46 : decode b_M_sync 46 = .ok (.aload_n 0, 1) := by decide +kernel
theorem d_M_sync_47 : decode b_M_sync 47 = .ok (.getfield 52, 3) := by decide +kernel
theorem d_M_sync_50 : decode b_M_sync 50 = .ok (.invokevirtual 134, 3) := by decide +kernel
theorem d_M_sync_53 : decode b_M_sync 53 = .ok (.istore_n 2, 1) := by decide +kernel
theorem d_M_sync_54 : decode b_M_sync 54 = .ok (.iload_n 2, 1) := by decide +kernel
theorem d_M_sync_55 : decode b_M_sync 55 = .ok (.ifCond .eq (5), 3) := by decide +kernel
theorem d_M_sync_58 : decode b_M_sync 58 = .ok (.iload_n 2, 1) := by decide +kernel
theorem d_M_sync_59 : decode b_M_sync 59 = .ok (.ireturn, 1) := by decide +kernel
theorem d_M_sync_60 : decode b_M_sync 60 = .ok (.aload_n 0, 1) := by decide +kernel
theorem d_M_sync_61 : decode b_M_sync 61 = .ok (.getfield 37, 3) := by decide +kernel
theorem d_M_sync_64 : decode b_M_sync 64 = .ok (.iload_n 1, 1) := by decide +kernel
theorem d_M_sync_65 : decode b_M_sync 65 = .ok (.aload_n 0, 1) := by decide +kernel
theorem d_M_sync_66 : decode b_M_sync 66 = .ok (.getfield 52, 3) := by decide +kernel
theorem d_M_sync_69 : decode b_M_sync 69 = .ok (.iconst 3, 1) := by decide +kernel
theorem d_M_sync_70 : decode b_M_sync 70 = .ok (.iload_n 1, 1) := by decide +kernel
theorem d_M_sync_71 : decode b_M_sync 71 = .ok (.imul, 1) := by decide +kernel
theorem d_M_sync_72 : decode b_M_sync 72 = .ok (.isub, 1) := by decide +kernel
theorem d_M_sync_73 : decode b_M_sync 73 = .ok (.iastore, 1) := by decide +kernel
theorem d_M_sync_74 : decode b_M_sync 74 = .ok (.iconst 1, 1) := by decide +kernel
theorem d_M_sync_75 : decode b_M_sync 75 = .ok (.ireturn, 1) := by decide +kernel
theorem d_M_ticket_0 : decode b_M_ticket 0 = .ok (.aload_n 0, 1) := by decide +kernel
theorem d_M_ticket_1 : decode b_M_ticket 1 = .ok (.iconst 1, 1) := by decide +kernel
theorem d_M_ticket_2 : decode b_M_ticket 2 = .ok (.aload_n 0, 1) := by decide +kernel
theorem d_M_ticket_3 : decode b_M_ticket 3 = .ok (.getfield 23, 3) := by decide +kernel
theorem d_M_ticket_6 : decode b_M_ticket 6 = .ok (.ifCond .ne (7), 3) := by decide +kernel
theorem d_M_ticket_9 : decode b_M_ticket 9 = .ok (.iconst 1, 1) := by decide +kernel
theorem d_M_ticket_10 : decode b_M_ticket 10 = .ok (.goto (4), 3) := by decide +kernel
theorem d_M_ticket_13 : decode b_M_ticket 13 = .ok (.iconst 0, 1) := by decide +kernel
theorem d_M_ticket_14 : decode b_M_ticket 14 = .ok (.invokevirtual 137, 3) := by decide +kernel
theorem d_M_ticket_17 : decode b_M_ticket 17 = .ok (.ifCond .eq (5), 3) := by decide +kernel
theorem d_M_ticket_20 : decode b_M_ticket 20 = .ok (.iconst 0, 1) := by decide +kernel
theorem d_M_ticket_21 : decode b_M_ticket 21 = .ok (.ireturn, 1) := by decide +kernel
theorem d_M_ticket_22 : decode b_M_ticket 22 = .ok (.iload_n 1, 1) := by decide +kernel
theorem d_M_ticket_23 : decode b_M_ticket 23 = .ok (.iconst 1, 1) := by decide +kernel
theorem d_M_ticket_24 : decode b_M_ticket 24 = .ok (.if_icmp .ge (7), 3) := by decide +kernel
theorem d_M_ticket_27 : decode b_M_ticket 27 = .ok (.iconst (-1), 1) := by decide +kernel
theorem d_M_ticket_28 : decode b_M_ticket 28 = .ok (.goto (8), 3) := by decide +kernel
theorem d_M_ticket_31 : decode b_M_ticket 31 = .ok (.aload_n 0, 1) := by decide +kernel
theorem d_M_ticket_32 : decode b_M_ticket 32 = .ok (.iload_n 1, 1) := by decide +kernel
theorem d_M_ticket_33 : decode b_M_ticket 33 = .ok (.invokevirtual 127, 3) := by decide +kernel
theorem d_M_ticket_36 : decode b_M_ticket 36 = .ok (.istore_n 3, 1) := by decide +kernel
theorem d_M_ticket_37 : decode b_M_ticket 37 = .ok (.aload_n 0, 1) := by decide +kernel
theorem d_M_ticket_38 : decode b_M_ticket 38 = .ok (.iconst 2, 1) := by decide +kernel
theorem d_M_ticket_39 : decode b_M_ticket 39 = .ok (.iload_n 3, 1) := by decide +kernel
theorem d_M_ticket_40 : decode b_M_ticket 40 = .ok (.ifCond .lt (13), 3) := by decide +kernel
theorem d_M_ticket_43 : decode b_M_ticket 43 = .ok (.iload_n 2, 1) := by decide +kernel
theorem d_M_ticket_44 : decode b_M_ticket 44 = .ok (.iconst 0, 1) := by decide +kernel
theorem d_M_ticket_45 : decode b_M_ticket 45 = .ok (.bipush 6, 2) := by decide +kernel
theorem d_M_ticket_47 : decode b_M_ticket 47 = .ok (.invokestatic 130, 3) := by decide +kernel
theorem d_M_ticket_50 : decode b_M_ticket 50 = .ok (.ifCond .ne (7), 3) := by decide +kernel
theorem d_M_ticket_53 : decode b_M_ticket 53 = .ok (.iconst 1, 1) := by decide +kernel
theorem d_M_ticket_54 : decode b_M_ticket 54 = .ok (.goto (4), 3) := by decide +kernel
theorem d_M_ticket_57 : decode b_M_ticket 57 = .ok (.iconst 0, 1) := by decide +kernel
theorem d_M_ticket_58 : decode b_M_ticket 58 = .ok (.invokevirtual 137, 3) := by decide +kernel
theorem d_M_ticket_61 : decode b_M_ticket 61 = .ok (.ifCond .eq (5), 3) := by decide +kernel
theorem d_M_ticket_64 : decode b_M_ticket 64 = .ok (.iconst 0, 1) := by decide +kernel
theorem d_M_ticket_65 : decode b_M_ticket 65 = .ok (.ireturn, 1) := by decide +kernel
theorem d_M_ticket_66 : decode b_M_ticket 66 = .ok (.iload_n 2, 1) := by decide +kernel
theorem d_M_ticket_67 : decode b_M_ticket 67 = .ok (.tableswitch 93 0 5 #[37, 44, 57, 67, 77, 87], 37) := by decide +kernel
theorem d_M_ticket_104 : decode b_M_ticket 104 = .ok (.aload_n 0, 1) := by decide +kernel
theorem d_M_ticket_105 : decode b_M_ticket 105 = .ok (.iload_n 3, 1) := by decide +kernel
theorem d_M_ticket_106 : decode b_M_ticket 106 = .ok (.iconst 0, 1) := by decide +kernel
theorem d_M_ticket_107 : decode b_M_ticket 107 = .ok (.invokevirtual 121, 3) := by decide +kernel
theorem d_M_ticket_110 : decode b_M_ticket 110 = .ok (.ireturn, 1) := by decide +kernel
theorem d_M_ticket_111 : decode b_M_ticket 111 = .ok (.bipush 20, 2) := by decide +kernel
theorem d_M_ticket_113 : decode b_M_ticket 113 = .ok (.aload_n 0, 1) := by decide +kernel
theorem d_M_ticket_114 : decode b_M_ticket 114 = .ok (.iload_n 3, 1) := by decide +kernel
theorem d_M_ticket_115 : decode b_M_ticket 115 = .ok (.iconst 1, 1) := by decide +kernel
theorem d_M_ticket_116 : decode b_M_ticket 116 = .ok (.invokevirtual 121, 3) := by decide +kernel
theorem d_M_ticket_119 : decode b_M_ticket 119 = .ok (.bipush 18, 2) := by decide +kernel
theorem d_M_ticket_121 : decode b_M_ticket 121 = .ok (.iushr, 1) := by decide +kernel
theorem d_M_ticket_122 : decode b_M_ticket 122 = .ok (.imul, 1) := by decide +kernel
theorem d_M_ticket_123 : decode b_M_ticket 123 = .ok (.ireturn, 1) := by decide +kernel
theorem d_M_ticket_124 : decode b_M_ticket 124 = .ok (.aload_n 0, 1) := by decide +kernel
theorem d_M_ticket_125 : decode b_M_ticket 125 = .ok (.iload_n 3, 1) := by decide +kernel
theorem d_M_ticket_126 : decode b_M_ticket 126 = .ok (.iconst 1, 1) := by decide +kernel
theorem d_M_ticket_127 : decode b_M_ticket 127 = .ok (.invokevirtual 121, 3) := by decide +kernel
theorem d_M_ticket_130 : decode b_M_ticket 130 = .ok (.ldc 159, 2) := by decide +kernel
theorem d_M_ticket_132 : decode b_M_ticket 132 = .ok (.iand, 1) := by decide +kernel
theorem d_M_ticket_133 : decode b_M_ticket 133 = .ok (.ireturn, 1) := by decide +kernel
theorem d_M_ticket_134 : decode b_M_ticket 134 = .ok (.aload_n 0, 1) := by decide +kernel
theorem d_M_ticket_135 : decode b_M_ticket 135 = .ok (.iload_n 3, 1) := by decide +kernel
theorem d_M_ticket_136 : decode b_M_ticket 136 = .ok (.iconst 2, 1) := by decide +kernel
theorem d_M_ticket_137 : decode b_M_ticket 137 = .ok (.invokevirtual 121, 3) := by decide +kernel
theorem d_M_ticket_140 : decode b_M_ticket 140 = .ok (.bipush 26, 2) := by decide +kernel
theorem d_M_ticket_142 : decode b_M_ticket 142 = .ok (.iushr, 1) := by decide +kernel
theorem d_M_ticket_143 : decode b_M_ticket 143 = .ok (.ireturn, 1) := by decide +kernel
theorem d_M_ticket_144 : decode b_M_ticket 144 = .ok (.aload_n 0, 1) := by decide +kernel
theorem d_M_ticket_145 : decode b_M_ticket 145 = .ok (.iload_n 3, 1) := by decide +kernel
theorem d_M_ticket_146 : decode b_M_ticket 146 = .ok (.iconst 2, 1) := by decide +kernel
theorem d_M_ticket_147 : decode b_M_ticket 147 = .ok (.invokevirtual 121, 3) := by decide +kernel
theorem d_M_ticket_150 : decode b_M_ticket 150 = .ok (.ldc 142, 2) := by decide +kernel
theorem d_M_ticket_152 : decode b_M_ticket 152 = .ok (.iand, 1) := by decide +kernel
theorem d_M_ticket_153 : decode b_M_ticket 153 = .ok (.ireturn, 1) := by decide +kernel
theorem d_M_ticket_154 : decode b_M_ticket 154 = .ok (.aload_n 0, 1) := by decide +kernel
theorem d_M_ticket_155 : decode b_M_ticket 155 = .ok (.iload_n 1, 1) := by decide +kernel
theorem d_M_ticket_156 : decode b_M_ticket 156 = .ok (.invokevirtual 152, 3) := by decide +kernel
theorem d_M_ticket_159 : decode b_M_ticket 159 = .ok (.ireturn, 1) := by decide +kernel
theorem d_M_ticket_160 : decode b_M_ticket 160 = .ok (.aload_n 0, 1) := by decide +kernel
theorem d_M_ticket_161 : decode b_M_ticket 161 = .ok (.iload_n 3, 1) := by decide +kernel
theorem d_M_ticket_162 : decode b_M_ticket 162 = .ok (.iconst 3, 1) := by decide +kernel
theorem d_M_ticket_163 : decode b_M_ticket 163 = .ok (.invokevirtual 121, 3) := by decide +kernel
theorem d_M_ticket_166 : decode b_M_ticket 166 = .ok (.ireturn, 1) := by decide +kernel
theorem d_M_dayTotal_0 : decode b_M_dayTotal 0 = .ok (.aload_n 0, 1) := by decide +kernel
theorem d_M_dayTotal_1 : decode b_M_dayTotal 1 = .ok (.iconst 1, 1) := by decide +kernel
theorem d_M_dayTotal_2 : decode b_M_dayTotal 2 = .ok (.aload_n 0, 1) := by decide +kernel
theorem d_M_dayTotal_3 : decode b_M_dayTotal 3 = .ok (.getfield 23, 3) := by decide +kernel
theorem d_M_dayTotal_6 : decode b_M_dayTotal 6 = .ok (.ifCond .ne (7), 3) := by decide +kernel
theorem d_M_dayTotal_9 : decode b_M_dayTotal 9 = .ok (.iconst 1, 1) := by decide +kernel
theorem d_M_dayTotal_10 : decode b_M_dayTotal 10 = .ok (.goto (4), 3) := by decide +kernel
theorem d_M_dayTotal_13 : decode b_M_dayTotal 13 = .ok (.iconst 0, 1) := by decide +kernel
theorem d_M_dayTotal_14 : decode b_M_dayTotal 14 = .ok (.invokevirtual 137, 3) := by decide +kernel
theorem d_M_dayTotal_17 : decode b_M_dayTotal 17 = .ok (.ifCond .eq (5), 3) := by decide +kernel
theorem d_M_dayTotal_20 : decode b_M_dayTotal 20 = .ok (.lconst 0, 1) := by decide +kernel
theorem d_M_dayTotal_21 : decode b_M_dayTotal 21 = .ok (.lreturn, 1) := by decide +kernel
theorem d_M_dayTotal_22 : decode b_M_dayTotal 22 = .ok (.lconst 0, 1) := by decide +kernel
theorem d_M_dayTotal_23 : decode b_M_dayTotal 23 = .ok (.lstore_n 3, 1) := by decide +kernel
theorem d_M_dayTotal_24 : decode b_M_dayTotal 24 = .ok (.iconst 1, 1) := by decide +kernel
theorem d_M_dayTotal_25 : decode b_M_dayTotal 25 = .ok (.istore 5, 2) := by decide +kernel
theorem d_M_dayTotal_27 : decode b_M_dayTotal 27 = .ok (.iload 5, 2) := by decide +kernel
theorem d_M_dayTotal_29 : decode b_M_dayTotal 29 = .ok (.aload_n 0, 1) := by decide +kernel
theorem d_M_dayTotal_30 : decode b_M_dayTotal 30 = .ok (.invokevirtual 149, 3) := by decide +kernel
theorem d_M_dayTotal_33 : decode b_M_dayTotal 33 = .ok (.if_icmp .gt (68), 3) := by decide +kernel
theorem d_M_dayTotal_36 : decode b_M_dayTotal 36 = .ok (.aload_n 0, 1) := by decide +kernel
theorem d_M_dayTotal_37 : decode b_M_dayTotal 37 = .ok (.iload 5, 2) := by decide +kernel
theorem d_M_dayTotal_39 : decode b_M_dayTotal 39 = .ok (.invokevirtual 127, 3) := by decide +kernel
theorem d_M_dayTotal_42 : decode b_M_dayTotal 42 = .ok (.istore 6, 2) := by decide +kernel
theorem d_M_dayTotal_44 : decode b_M_dayTotal 44 = .ok (.aload_n 0, 1) := by decide +kernel
theorem d_M_dayTotal_45 : decode b_M_dayTotal 45 = .ok (.iload 6, 2) := by decide +kernel
theorem d_M_dayTotal_47 : decode b_M_dayTotal 47 = .ok (.iconst 2, 1) := by decide +kernel
theorem d_M_dayTotal_48 : decode b_M_dayTotal 48 = .ok (.invokevirtual 121, 3) := by decide +kernel
theorem d_M_dayTotal_51 : decode b_M_dayTotal 51 = .ok (.bipush 26, 2) := by decide +kernel
theorem d_M_dayTotal_53 : decode b_M_dayTotal 53 = .ok (.iushr, 1) := by decide +kernel
theorem d_M_dayTotal_54 : decode b_M_dayTotal 54 = .ok (.iload_n 2, 1) := by decide +kernel
theorem d_M_dayTotal_55 : decode b_M_dayTotal 55 = .ok (.if_icmp .ne (40), 3) := by decide +kernel
theorem d_M_dayTotal_58 : decode b_M_dayTotal 58 = .ok (.aload_n 0, 1) := by decide +kernel
theorem d_M_dayTotal_59 : decode b_M_dayTotal 59 = .ok (.iload 6, 2) := by decide +kernel
theorem d_M_dayTotal_61 : decode b_M_dayTotal 61 = .ok (.iconst 2, 1) := by decide +kernel
theorem d_M_dayTotal_62 : decode b_M_dayTotal 62 = .ok (.invokevirtual 121, 3) := by decide +kernel
theorem d_M_dayTotal_65 : decode b_M_dayTotal 65 = .ok (.ldc 142, 2) := by decide +kernel
theorem d_M_dayTotal_67 : decode b_M_dayTotal 67 = .ok (.iand, 1) := by decide +kernel
theorem d_M_dayTotal_68 : decode b_M_dayTotal 68 = .ok (.sipush 1440, 3) := by decide +kernel
theorem d_M_dayTotal_71 : decode b_M_dayTotal 71 = .ok (.idiv, 1) := by decide +kernel
theorem d_M_dayTotal_72 : decode b_M_dayTotal 72 = .ok (.iload_n 1, 1) := by decide +kernel
theorem d_M_dayTotal_73 : decode b_M_dayTotal 73 = .ok (.if_icmp .ne (22), 3) := by decide +kernel
theorem d_M_dayTotal_76 : decode b_M_dayTotal 76 = .ok (.aload_n 0, 1) := by decide +kernel
theorem d_M_dayTotal_77 : decode b_M_dayTotal 77 = .ok (.iload 5, 2) := by decide +kernel
theorem d_M_dayTotal_79 : decode b_M_dayTotal 79 = .ok (.invokevirtual 152, 3) := by decide +kernel
theorem d_M_dayTotal_82 : decode b_M_dayTotal 82 = .ok (.ifCond .ne (13), 3) := by decide +kernel
theorem d_M_dayTotal_85 : decode b_M_dayTotal 85 = .ok (.lload_n 3, 1) := by decide +kernel
theorem d_M_dayTotal_86 : decode b_M_dayTotal 86 = .ok (.aload_n 0, 1) := by decide +kernel
theorem d_M_dayTotal_87 : decode b_M_dayTotal 87 = .ok (.iload 6, 2) := by decide +kernel
theorem d_M_dayTotal_89 : decode b_M_dayTotal 89 = .ok (.invokevirtual 160, 3) := by decide +kernel
theorem d_M_dayTotal_92 : decode b_M_dayTotal 92 = .ok (.i2l, 1) := by decide +kernel
theorem d_M_dayTotal_93 : decode b_M_dayTotal 93 = .ok (.ladd, 1) := by decide +kernel
theorem d_M_dayTotal_94 : decode b_M_dayTotal 94 = .ok (.lstore_n 3, 1) := by decide +kernel
theorem d_M_dayTotal_95 : decode b_M_dayTotal 95 = .ok (.iinc 5 1, 3) := by decide +kernel
theorem d_M_dayTotal_98 : decode b_M_dayTotal 98 = .ok (.goto (-71), 3) := by decide +kernel
theorem d_M_dayTotal_101 : decode b_M_dayTotal 101 = .ok (.lload_n 3, 1) := by decide +kernel
theorem d_M_dayTotal_102 : decode b_M_dayTotal 102 = .ok (.lreturn, 1) := by decide +kernel
theorem d_M_rangeTotal_0 : decode b_M_rangeTotal 0 = .ok (.aload_n 0, 1) := by decide +kernel
theorem d_M_rangeTotal_1 : decode b_M_rangeTotal 1 = .ok (.iconst 1, 1) := by decide +kernel
theorem d_M_rangeTotal_2 : decode b_M_rangeTotal 2 = .ok (.aload_n 0, 1) := by decide +kernel
theorem d_M_rangeTotal_3 : decode b_M_rangeTotal 3 = .ok (.getfield 23, 3) := by decide +kernel
theorem d_M_rangeTotal_6 : decode b_M_rangeTotal 6 = .ok (.ifCond .ne (7), 3) := by decide +kernel
theorem d_M_rangeTotal_9 : decode b_M_rangeTotal 9 = .ok (.iconst 1, 1) := by decide +kernel
theorem d_M_rangeTotal_10 : decode b_M_rangeTotal 10 = .ok (.goto (4), 3) := by decide +kernel
theorem d_M_rangeTotal_13 : decode b_M_rangeTotal 13 = .ok (.iconst 0, 1) := by decide +kernel
theorem d_M_rangeTotal_14 : decode b_M_rangeTotal 14 = .ok (.invokevirtual 137, 3) := by decide +kernel
theorem d_M_rangeTotal_17 : decode b_M_rangeTotal 17 = .ok (.ifCond .eq (5), 3) := by decide +kernel
theorem d_M_rangeTotal_20 : decode b_M_rangeTotal 20 = .ok (.lconst 0, 1) := by decide +kernel
theorem d_M_rangeTotal_21 : decode b_M_rangeTotal 21 = .ok (.lreturn, 1) := by decide +kernel
theorem d_M_rangeTotal_22 : decode b_M_rangeTotal 22 = .ok (.lconst 0, 1) := by decide +kernel
theorem d_M_rangeTotal_23 : decode b_M_rangeTotal 23 = .ok (.lstore_n 3, 1) := by decide +kernel
theorem d_M_rangeTotal_24 : decode b_M_rangeTotal 24 = .ok (.iconst 1, 1) := by decide +kernel
theorem d_M_rangeTotal_25 : decode b_M_rangeTotal 25 = .ok (.istore 5, 2) := by decide +kernel
theorem d_M_rangeTotal_27 : decode b_M_rangeTotal 27 = .ok (.iload 5, 2) := by decide +kernel
theorem d_M_rangeTotal_29 : decode b_M_rangeTotal 29 = .ok (.aload_n 0, 1) := by decide +kernel
theorem d_M_rangeTotal_30 : decode b_M_rangeTotal 30 = .ok (.invokevirtual 149, 3) := by decide +kernel
theorem d_M_rangeTotal_33 : decode b_M_rangeTotal 33 = .ok (.if_icmp .gt (44), 3) := by decide +kernel
theorem d_M_rangeTotal_36 : decode b_M_rangeTotal 36 = .ok (.iload 5, 2) := by decide +kernel
theorem d_M_rangeTotal_38 : decode b_M_rangeTotal 38 = .ok (.iload_n 1, 1) := by decide +kernel
theorem d_M_rangeTotal_39 : decode b_M_rangeTotal 39 = .ok (.if_icmp .lt (32), 3) := by decide +kernel
theorem d_M_rangeTotal_42 : decode b_M_rangeTotal 42 = .ok (.iload 5, 2) := by decide +kernel
theorem d_M_rangeTotal_44 : decode b_M_rangeTotal 44 = .ok (.iload_n 2, 1) := by decide +kernel
theorem d_M_rangeTotal_45 : decode b_M_rangeTotal 45 = .ok (.if_icmp .gt (26), 3) := by decide +kernel
theorem d_M_rangeTotal_48 : decode b_M_rangeTotal 48 = .ok (.aload_n 0, 1) := by decide +kernel
theorem d_M_rangeTotal_49 : decode b_M_rangeTotal 49 = .ok (.iload 5, 2) := by decide +kernel
theorem d_M_rangeTotal_51 : decode b_M_rangeTotal 51 = .ok (.invokevirtual 152, 3) := by decide +kernel
theorem d_M_rangeTotal_54 : decode b_M_rangeTotal 54 = .ok (.ifCond .ne (17), 3) := by decide +kernel
theorem d_M_rangeTotal_57 : decode b_M_rangeTotal 57 = .ok (.lload_n 3, 1) := by decide +kernel
theorem d_M_rangeTotal_58 : decode b_M_rangeTotal 58 = .ok (.aload_n 0, 1) := by decide +kernel
theorem d_M_rangeTotal_59 : decode b_M_rangeTotal 59 = .ok (.aload_n 0, 1) := by decide +kernel
theorem d_M_rangeTotal_60 : decode b_M_rangeTotal 60 = .ok (.iload 5, 2) := by decide +kernel
theorem d_M_rangeTotal_62 : decode b_M_rangeTotal 62 = .ok (.invokevirtual 127, 3) := by decide +kernel
theorem d_M_rangeTotal_65 : decode b_M_rangeTotal 65 = .ok (.invokevirtual 160, 3) := by decide +kernel
theorem d_M_rangeTotal_68 : decode b_M_rangeTotal 68 = .ok (.i2l, 1) := by decide +kernel
theorem d_M_rangeTotal_69 : decode b_M_rangeTotal 69 = .ok (.ladd, 1) := by decide +kernel
theorem d_M_rangeTotal_70 : decode b_M_rangeTotal 70 = .ok (.lstore_n 3, 1) := by decide +kernel
theorem d_M_rangeTotal_71 : decode b_M_rangeTotal 71 = .ok (.iinc 5 1, 3) := by decide +kernel
theorem d_M_rangeTotal_74 : decode b_M_rangeTotal 74 = .ok (.goto (-47), 3) := by decide +kernel
theorem d_M_rangeTotal_77 : decode b_M_rangeTotal 77 = .ok (.lload_n 3, 1) := by decide +kernel
theorem d_M_rangeTotal_78 : decode b_M_rangeTotal 78 = .ok (.lreturn, 1) := by decide +kernel
theorem d_M_find_0 : decode b_M_find 0 = .ok (.aload_n 0, 1) := by decide +kernel
theorem d_M_find_1 : decode b_M_find 1 = .ok (.iconst 1, 1) := by decide +kernel
theorem d_M_find_2 : decode b_M_find 2 = .ok (.aload_n 0, 1) := by decide +kernel
theorem d_M_find_3 : decode b_M_find 3 = .ok (.getfield 23, 3) := by decide +kernel
theorem d_M_find_6 : decode b_M_find 6 = .ok (.ifCond .ne (7), 3) := by decide +kernel
theorem d_M_find_9 : decode b_M_find 9 = .ok (.iconst 1, 1) := by decide +kernel
theorem d_M_find_10 : decode b_M_find 10 = .ok (.goto (4), 3) := by decide +kernel
theorem d_M_find_13 : decode b_M_find 13 = .ok (.iconst 0, 1) := by decide +kernel
theorem d_M_find_14 : decode b_M_find 14 = .ok (.invokevirtual 137, 3) := by decide +kernel
theorem d_M_find_17 : decode b_M_find 17 = .ok (.ifCond .eq (5), 3) := by decide +kernel
theorem d_M_find_20 : decode b_M_find 20 = .ok (.iconst 0, 1) := by decide +kernel
theorem d_M_find_21 : decode b_M_find 21 = .ok (.ireturn, 1) := by decide +kernel
theorem d_M_find_22 : decode b_M_find 22 = .ok (.iconst 1, 1) := by decide +kernel
theorem d_M_find_23 : decode b_M_find 23 = .ok (.istore_n 3, 1) := by decide +kernel
theorem d_M_find_24 : decode b_M_find 24 = .ok (.iload_n 3, 1) := by decide +kernel
theorem d_M_find_25 : decode b_M_find 25 = .ok (.aload_n 0, 1) := by decide +kernel
theorem d_M_find_26 : decode b_M_find 26 = .ok (.invokevirtual 149, 3) := by decide +kernel
theorem d_M_find_29 : decode b_M_find 29 = .ok (.if_icmp .gt (30), 3) := by decide +kernel
theorem d_M_find_32 : decode b_M_find 32 = .ok (.iload_n 3, 1) := by decide +kernel
theorem d_M_find_33 : decode b_M_find 33 = .ok (.iload_n 2, 1) := by decide +kernel
theorem d_M_find_34 : decode b_M_find 34 = .ok (.if_icmp .lt (19), 3) := by decide +kernel
theorem d_M_find_37 : decode b_M_find 37 = .ok (.aload_n 0, 1) := by decide +kernel
theorem d_M_find_38 : decode b_M_find 38 = .ok (.aload_n 0, 1) := by decide +kernel
theorem d_M_find_39 : decode b_M_find 39 = .ok (.iload_n 3, 1) := by decide +kernel
theorem d_M_find_40 : decode b_M_find 40 = .ok (.invokevirtual 127, 3) := by decide +kernel
theorem d_M_find_43 : decode b_M_find 43 = .ok (.iconst 0, 1) := by decide +kernel
theorem d_M_find_44 : decode b_M_find 44 = .ok (.invokevirtual 121, 3) := by decide +kernel
theorem d_M_find_47 : decode b_M_find 47 = .ok (.iload_n 1, 1) := by decide +kernel
theorem d_M_find_48 : decode b_M_find 48 = .ok (.if_icmp .ne (5), 3) := by decide +kernel
theorem d_M_find_51 : decode b_M_find 51 = .ok (.iload_n 3, 1) := by decide +kernel
theorem d_M_find_52 : decode b_M_find 52 = .ok (.ireturn, 1) := by decide +kernel
theorem d_M_find_53 : decode b_M_find 53 = .ok (.iinc 3 1, 3) := by decide +kernel
theorem d_M_find_56 : decode b_M_find 56 = .ok (.goto (-32), 3) := by decide +kernel
theorem d_M_find_59 : decode b_M_find 59 = .ok (.iconst 0, 1) := by decide +kernel
theorem d_M_find_60 : decode b_M_find 60 = .ok (.ireturn, 1) := by decide +kernel
theorem d_M_audit_0 : decode b_M_audit 0 = .ok (.aload_n 0, 1) := by decide +kernel
theorem d_M_audit_1 : decode b_M_audit 1 = .ok (.iconst 1, 1) := by decide +kernel
theorem d_M_audit_2 : decode b_M_audit 2 = .ok (.aload_n 0, 1) := by decide +kernel
theorem d_M_audit_3 : decode b_M_audit 3 = .ok (.getfield 23, 3) := by decide +kernel
theorem d_M_audit_6 : decode b_M_audit 6 = .ok (.ifCond .ne (7), 3) := by decide +kernel
theorem d_M_audit_9 : decode b_M_audit 9 = .ok (.iconst 1, 1) := by decide +kernel
theorem d_M_audit_10 : decode b_M_audit 10 = .ok (.goto (4), 3) := by decide +kernel
theorem d_M_audit_13 : decode b_M_audit 13 = .ok (.iconst 0, 1) := by decide +kernel
theorem d_M_audit_14 : decode b_M_audit 14 = .ok (.invokevirtual 137, 3) := by decide +kernel
theorem d_M_audit_17 : decode b_M_audit 17 = .ok (.ifCond .eq (5), 3) := by decide +kernel
theorem d_M_audit_20 : decode b_M_audit 20 = .ok (.iconst 0, 1) := by decide +kernel
theorem d_M_audit_21 : decode b_M_audit 21 = .ok (.ireturn, 1) := by decide +kernel
theorem d_M_audit_22 : decode b_M_audit 22 = .ok (.iconst 1, 1) := by decide +kernel
theorem d_M_audit_23 : decode b_M_audit 23 = .ok (.istore_n 3, 1) := by decide +kernel
theorem d_M_audit_24 : decode b_M_audit 24 = .ok (.iload_n 3, 1) := by decide +kernel
theorem d_M_audit_25 : decode b_M_audit 25 = .ok (.aload_n 0, 1) := by decide +kernel
theorem d_M_audit_26 : decode b_M_audit 26 = .ok (.invokevirtual 149, 3) := by decide +kernel
theorem d_M_audit_29 : decode b_M_audit 29 = .ok (.if_icmp .gt (33), 3) := by decide +kernel
theorem d_M_audit_32 : decode b_M_audit 32 = .ok (.iload_n 3, 1) := by decide +kernel
theorem d_M_audit_33 : decode b_M_audit 33 = .ok (.iload_n 1, 1) := by decide +kernel
theorem d_M_audit_34 : decode b_M_audit 34 = .ok (.if_icmp .lt (22), 3) := by decide +kernel
theorem d_M_audit_37 : decode b_M_audit 37 = .ok (.iload_n 3, 1) := by decide +kernel
theorem d_M_audit_38 : decode b_M_audit 38 = .ok (.iload_n 2, 1) := by decide +kernel
theorem d_M_audit_39 : decode b_M_audit 39 = .ok (.if_icmp .gt (17), 3) := by decide +kernel
theorem d_M_audit_42 : decode b_M_audit 42 = .ok (.aload_n 0, 1) := by decide +kernel
theorem d_M_audit_43 : decode b_M_audit 43 = .ok (.aload_n 0, 1) := by decide +kernel
theorem d_M_audit_44 : decode b_M_audit 44 = .ok (.iload_n 3, 1) := by decide +kernel
theorem d_M_audit_45 : decode b_M_audit 45 = .ok (.invokevirtual 127, 3) := by decide +kernel
theorem d_M_audit_48 : decode b_M_audit 48 = .ok (.invokevirtual 169, 3) := by decide +kernel
theorem d_M_audit_51 : decode b_M_audit 51 = .ok (.ifCond .eq (5), 3) := by decide +kernel
theorem d_M_audit_54 : decode b_M_audit 54 = .ok (.iload_n 3, 1) := by decide +kernel
theorem d_M_audit_55 : decode b_M_audit 55 = .ok (.ireturn, 1) := by decide +kernel
theorem d_M_audit_56 : decode b_M_audit 56 = .ok (.iinc 3 1, 3) := by decide +kernel
theorem d_M_audit_59 : decode b_M_audit 59 = .ok (.goto (-35), 3) := by decide +kernel
theorem d_M_audit_62 : decode b_M_audit 62 = .ok (.iconst 0, 1) := by decide +kernel
theorem d_M_audit_63 : decode b_M_audit 63 = .ok (.ireturn, 1) := by decide +kernel
theorem d_M_exportByte_0 : decode b_M_exportByte 0 = .ok (.aload_n 0, 1) := by decide +kernel
theorem d_M_exportByte_1 : decode b_M_exportByte 1 = .ok (.iconst 1, 1) := by decide +kernel
theorem d_M_exportByte_2 : decode b_M_exportByte 2 = .ok (.aload_n 0, 1) := by decide +kernel
theorem d_M_exportByte_3 : decode b_M_exportByte 3 = .ok (.getfield 23, 3) := by decide +kernel
theorem d_M_exportByte_6 : decode b_M_exportByte 6 = .ok (.ifCond .ne (7), 3) := by decide +kernel
theorem d_M_exportByte_9 : decode b_M_exportByte 9 = .ok (.iconst 1, 1) := by decide +kernel
theorem d_M_exportByte_10 : decode b_M_exportByte 10 = .ok (.goto (4), 3) := by decide +kernel
theorem d_M_exportByte_13 : decode b_M_exportByte 13 = .ok (.iconst 0, 1) := by decide +kernel
theorem d_M_exportByte_14 : decode b_M_exportByte 14 = .ok (.invokevirtual 137, 3) := by decide +kernel
theorem d_M_exportByte_17 : decode b_M_exportByte 17 = .ok (.ifCond .eq (5), 3) := by decide +kernel
theorem d_M_exportByte_20 : decode b_M_exportByte 20 = .ok (.iconst 0, 1) := by decide +kernel
theorem d_M_exportByte_21 : decode b_M_exportByte 21 = .ok (.ireturn, 1) := by decide +kernel
theorem d_M_exportByte_22 : decode b_M_exportByte 22 = .ok (.aload_n 0, 1) := by decide +kernel
theorem d_M_exportByte_23 : decode b_M_exportByte 23 = .ok (.iconst 0, 1) := by decide +kernel
theorem d_M_exportByte_24 : decode b_M_exportByte 24 = .ok (.putfield 172, 3) := by decide +kernel
theorem d_M_exportByte_27 : decode b_M_exportByte 27 = .ok (.aload_n 0, 1) := by decide +kernel
theorem d_M_exportByte_28 : decode b_M_exportByte 28 = .ok (.iload_n 3, 1) := by decide +kernel
theorem d_M_exportByte_29 : decode b_M_exportByte 29 = .ok (.putfield 175, 3) := by decide +kernel
theorem d_M_exportByte_32 : decode b_M_exportByte 32 = .ok (.aload_n 0, 1) := by decide +kernel
theorem d_M_exportByte_33 : decode b_M_exportByte 33 = .ok (.iconst (-1), 1) := by decide +kernel
theorem d_M_exportByte_34 : decode b_M_exportByte 34 = .ok (.putfield 178, 3) := by decide +kernel
theorem d_M_exportByte_37 : decode b_M_exportByte 37 = .ok (.iconst 1, 1) := by decide +kernel
theorem d_M_exportByte_38 : decode b_M_exportByte 38 = .ok (.istore 4, 2) := by decide +kernel
theorem d_M_exportByte_40 : decode b_M_exportByte 40 = .ok (.iload 4, 2) := by decide +kernel
theorem d_M_exportByte_42 : decode b_M_exportByte 42 = .ok (.aload_n 0, 1) := by decide +kernel
theorem d_M_exportByte_43 : decode b_M_exportByte 43 = .ok (.invokevirtual 149, 3) := by decide +kernel
theorem d_M_exportByte_46 : decode b_M_exportByte 46 = .ok (.if_icmp .gt (122), 3) := by decide +kernel
theorem d_M_exportByte_49 : decode b_M_exportByte 49 = .ok (.iload 4, 2) := by decide +kernel
theorem d_M_exportByte_51 : decode b_M_exportByte 51 = .ok (.iload_n 1, 1) := by decide +kernel
theorem d_M_exportByte_52 : decode b_M_exportByte 52 = .ok (.if_icmp .lt (110), 3) := by decide +kernel
theorem d_M_exportByte_55 : decode b_M_exportByte 55 = .ok (.iload 4, 2) := by decide +kernel
theorem d_M_exportByte_57 : decode b_M_exportByte 57 = .ok (.iload_n 2, 1) := by decide +kernel
theorem d_M_exportByte_58 : decode b_M_exportByte 58 = .ok (.if_icmp .le (6), 3) := by decide +kernel
theorem d_M_exportByte_61 : decode b_M_exportByte 61 = .ok (.goto (101), 3) := by decide +kernel
theorem d_M_exportByte_64 : decode b_M_exportByte 64 = .ok (.aload_n 0, 1) := by decide +kernel
theorem d_M_exportByte_65 : decode b_M_exportByte 65 = .ok (.iload 4, 2) := by decide +kernel
theorem d_M_exportByte_67 : decode b_M_exportByte 67 = .ok (.invokevirtual 127, 3) := by decide +kernel
theorem d_M_exportByte_70 : decode b_M_exportByte 70 = .ok (.istore 5, 2) := by decide +kernel
theorem d_M_exportByte_72 : decode b_M_exportByte 72 = .ok (.aload_n 0, 1) := by decide +kernel
theorem d_M_exportByte_73 : decode b_M_exportByte 73 = .ok (.iload 4, 2) := by decide +kernel
theorem d_M_exportByte_75 : decode b_M_exportByte 75 = .ok (.i2l, 1) := by decide +kernel
theorem d_M_exportByte_76 : decode b_M_exportByte 76 = .ok (.invokevirtual 191, 3) := by decide +kernel
theorem d_M_exportByte_79 : decode b_M_exportByte 79 = .ok (.aload_n 0, 1) := by decide +kernel
theorem d_M_exportByte_80 : decode b_M_exportByte 80 = .ok (.bipush 32, 2) := by decide +kernel
theorem d_M_exportByte_82 : decode b_M_exportByte 82 = .ok (.invokevirtual 181, 3) := by decide +kernel
theorem d_M_exportByte_85 : decode b_M_exportByte 85 = .ok (.aload_n 0, 1) := by decide +kernel
theorem d_M_exportByte_86 : decode b_M_exportByte 86 = .ok (.aload_n 0, 1) := by decide +kernel
theorem d_M_exportByte_87 : decode b_M_exportByte 87 = .ok (.iload 5, 2) := by decide +kernel
theorem d_M_exportByte_89 : decode b_M_exportByte 89 = .ok (.iconst 0, 1) := by decide +kernel
theorem d_M_exportByte_90 : decode b_M_exportByte 90 = .ok (.invokevirtual 121, 3) := by decide +kernel
theorem d_M_exportByte_93 : decode b_M_exportByte 93 = .ok (.i2l, 1) := by decide +kernel
theorem d_M_exportByte_94 : decode b_M_exportByte 94 = .ok (.invokevirtual 191, 3) := by decide +kernel
theorem d_M_exportByte_97 : decode b_M_exportByte 97 = .ok (.aload_n 0, 1) := by decide +kernel
theorem d_M_exportByte_98 : decode b_M_exportByte 98 = .ok (.bipush 32, 2) := by decide +kernel
theorem d_M_exportByte_100 : decode b_M_exportByte 100 = .ok (.invokevirtual 181, 3) := by decide +kernel
theorem d_M_exportByte_103 : decode b_M_exportByte 103 = .ok (.aload_n 0, 1) := by decide +kernel
theorem d_M_exportByte_104 : decode b_M_exportByte 104 = .ok (.aload_n 0, 1) := by decide +kernel
theorem d_M_exportByte_105 : decode b_M_exportByte 105 = .ok (.iload 5, 2) := by decide +kernel
theorem d_M_exportByte_107 : decode b_M_exportByte 107 = .ok (.invokevirtual 160, 3) := by decide +kernel
theorem d_M_exportByte_110 : decode b_M_exportByte 110 = .ok (.i2l, 1) := by decide +kernel
theorem d_M_exportByte_111 : decode b_M_exportByte 111 = .ok (.invokevirtual 191, 3) := by decide +kernel
theorem d_M_exportByte_114 : decode b_M_exportByte 114 = .ok (.aload_n 0, 1) := by decide +kernel
theorem d_M_exportByte_115 : decode b_M_exportByte 115 = .ok (.bipush 32, 2) := by decide +kernel
theorem d_M_exportByte_117 : decode b_M_exportByte 117 = .ok (.invokevirtual 181, 3) := by decide +kernel
theorem d_M_exportByte_120 : decode b_M_exportByte 120 = .ok (.aload_n 0, 1) := by decide +kernel
theorem d_M_exportByte_121 : decode b_M_exportByte 121 = .ok (.aload_n 0, 1) := by decide +kernel
theorem d_M_exportByte_122 : decode b_M_exportByte 122 = .ok (.iload 5, 2) := by decide +kernel
theorem d_M_exportByte_124 : decode b_M_exportByte 124 = .ok (.iconst 2, 1) := by decide +kernel
theorem d_M_exportByte_125 : decode b_M_exportByte 125 = .ok (.invokevirtual 121, 3) := by decide +kernel
theorem d_M_exportByte_128 : decode b_M_exportByte 128 = .ok (.bipush 26, 2) := by decide +kernel
theorem d_M_exportByte_130 : decode b_M_exportByte 130 = .ok (.iushr, 1) := by decide +kernel
theorem d_M_exportByte_131 : decode b_M_exportByte 131 = .ok (.i2l, 1) := by decide +kernel
theorem d_M_exportByte_132 : decode b_M_exportByte 132 = .ok (.invokevirtual 191, 3) := by decide +kernel
theorem d_M_exportByte_135 : decode b_M_exportByte 135 = .ok (.aload_n 0, 1) := by decide +kernel
theorem d_M_exportByte_136 : decode b_M_exportByte 136 = .ok (.iload 4, 2) := by decide +kernel
theorem d_M_exportByte_138 : decode b_M_exportByte 138 = .ok (.invokevirtual 152, 3) := by decide +kernel
theorem d_M_exportByte_141 : decode b_M_exportByte 141 = .ok (.ifCond .le (15), 3) := by decide +kernel
theorem d_M_exportByte_144 : decode b_M_exportByte 144 = .ok (.aload_n 0, 1) := by decide +kernel
theorem d_M_exportByte_145 : decode b_M_exportByte 145 = .ok (.bipush 32, 2) := by decide +kernel
theorem d_M_exportByte_147 : decode b_M_exportByte 147 = .ok (.invokevirtual 181, 3) := by decide +kernel
theorem d_M_exportByte_150 : decode b_M_exportByte 150 = .ok (.aload_n 0, 1) := by decide +kernel
theorem d_M_exportByte_151 : decode b_M_exportByte 151 = .ok (.bipush 86, 2) := by decide +kernel
theorem d_M_exportByte_153 : decode b_M_exportByte 153 = .ok (.invokevirtual 181, 3) := by decide +kernel
theorem d_M_exportByte_156 : decode b_M_exportByte 156 = .ok (.aload_n 0, 1) := by decide +kernel
theorem d_M_exportByte_157 : decode b_M_exportByte 157 = .ok (.bipush 10, 2) := by decide +kernel
theorem d_M_exportByte_159 : decode b_M_exportByte 159 = .ok (.invokevirtual 181, 3) := by decide +kernel
theorem d_M_exportByte_162 : decode b_M_exportByte 162 = .ok (.iinc 4 1, 3) := by decide +kernel
theorem d_M_exportByte_165 : decode b_M_exportByte 165 = .ok (.goto (-125), 3) := by decide +kernel
theorem d_M_exportByte_168 : decode b_M_exportByte 168 = .ok (.aload_n 0, 1) := by decide +kernel
theorem d_M_exportByte_169 : decode b_M_exportByte 169 = .ok (.getfield 178, 3) := by decide +kernel
theorem d_M_exportByte_172 : decode b_M_exportByte 172 = .ok (.ireturn, 1) := by decide +kernel
theorem d_M_setProduct_0 : decode b_M_setProduct 0 = .ok (.aload_n 0, 1) := by decide +kernel
theorem d_M_setProduct_1 : decode b_M_setProduct 1 = .ok (.iconst 1, 1) := by decide +kernel
theorem d_M_setProduct_2 : decode b_M_setProduct 2 = .ok (.iload_n 1, 1) := by decide +kernel
theorem d_M_setProduct_3 : decode b_M_setProduct 3 = .ok (.iconst 0, 1) := by decide +kernel
theorem d_M_setProduct_4 : decode b_M_setProduct 4 = .ok (.bipush 39, 2) := by decide +kernel
theorem d_M_setProduct_6 : decode b_M_setProduct 6 = .ok (.invokestatic 130, 3) := by decide +kernel
theorem d_M_setProduct_9 : decode b_M_setProduct 9 = .ok (.ifCond .ne (7), 3) := by decide +kernel
theorem d_M_setProduct_12 : decode b_M_setProduct 12 = .ok (.iconst 1, 1) := by decide +kernel
theorem d_M_setProduct_13 : decode b_M_setProduct 13 = .ok (.goto (4), 3) := by decide +kernel
theorem d_M_setProduct_16 : decode b_M_setProduct 16 = .ok (.iconst 0, 1) := by decide +kernel
theorem d_M_setProduct_17 : decode b_M_setProduct 17 = .ok (.invokevirtual 137, 3) := by decide +kernel
theorem d_M_setProduct_20 : decode b_M_setProduct 20 = .ok (.ifCond .ne (10), 3) := by decide +kernel
theorem d_M_setProduct_23 : decode b_M_setProduct 23 = .ok (.aload_n 0, 1) := by decide +kernel
theorem d_M_setProduct_24 : decode b_M_setProduct 24 = .ok (.getfield 20, 3) := by decide +kernel
theorem d_M_setProduct_27 : decode b_M_setProduct 27 = .ok (.iload_n 1, 1) := by decide +kernel
theorem d_M_setProduct_28 : decode b_M_setProduct 28 = .ok (.iload_n 2, 1) := by decide +kernel
theorem d_M_setProduct_29 : decode b_M_setProduct 29 = .ok (.bastore, 1) := by decide +kernel
theorem d_M_setProduct_30 : decode b_M_setProduct 30 = .ok (.return_, 1) := by decide +kernel
theorem d_M_cutAfter_0 : decode b_M_cutAfter 0 = .ok (.aload_n 0, 1) := by decide +kernel
theorem d_M_cutAfter_1 : decode b_M_cutAfter 1 = .ok (.iconst 1, 1) := by decide +kernel
theorem d_M_cutAfter_2 : decode b_M_cutAfter 2 = .ok (.iload_n 1, 1) := by decide +kernel
theorem d_M_cutAfter_3 : decode b_M_cutAfter 3 = .ok (.iconst 0, 1) := by decide +kernel
theorem d_M_cutAfter_4 : decode b_M_cutAfter 4 = .ok (.sipush 300, 3) := by decide +kernel
theorem d_M_cutAfter_7 : decode b_M_cutAfter 7 = .ok (.invokestatic 130, 3) := by decide +kernel
theorem d_M_cutAfter_10 : decode b_M_cutAfter 10 = .ok (.ifCond .ne (7), 3) := by decide +kernel
theorem d_M_cutAfter_13 : decode b_M_cutAfter 13 = .ok (.iconst 1, 1) := by decide +kernel
theorem d_M_cutAfter_14 : decode b_M_cutAfter 14 = .ok (.goto (4), 3) := by decide +kernel
theorem d_M_cutAfter_17 : decode b_M_cutAfter 17 = .ok (.iconst 0, 1) := by decide +kernel
theorem d_M_cutAfter_18 : decode b_M_cutAfter 18 = .ok (.invokevirtual 137, 3) := by decide +kernel
theorem d_M_cutAfter_21 : decode b_M_cutAfter 21 = .ok (.ifCond .ne (8), 3) := by decide +kernel
theorem d_M_cutAfter_24 : decode b_M_cutAfter 24 = .ok (.aload_n 0, 1) := by decide +kernel
theorem d_M_cutAfter_25 : decode b_M_cutAfter 25 = .ok (.iload_n 1, 1) := by decide +kernel
theorem d_M_cutAfter_26 : decode b_M_cutAfter 26 = .ok (.putfield 27, 3) := by decide +kernel
theorem d_M_cutAfter_29 : decode b_M_cutAfter 29 = .ok (.return_, 1) := by decide +kernel
theorem d_M_crash_0 : decode b_M_crash 0 = .ok (.aload_n 0, 1) := by decide +kernel
theorem d_M_crash_1 : decode b_M_crash 1 = .ok (.iconst 0, 1) := by decide +kernel
theorem d_M_crash_2 : decode b_M_crash 2 = .ok (.putfield 49, 3) := by decide +kernel
theorem d_M_crash_5 : decode b_M_crash 5 = .ok (.aload_n 0, 1) := by decide +kernel
theorem d_M_crash_6 : decode b_M_crash 6 = .ok (.invokevirtual 72, 3) := by decide +kernel
theorem d_M_crash_9 : decode b_M_crash 9 = .ok (.return_, 1) := by decide +kernel
theorem d_M_mount_0 : decode b_M_mount 0 = .ok (.aload_n 0, 1) := by decide +kernel
theorem d_M_mount_1 : decode b_M_mount 1 = .ok (.iconst 0, 1) := by decide +kernel
theorem d_M_mount_2 : decode b_M_mount 2 = .ok (.putfield 49, 3) := by decide +kernel
theorem d_M_mount_5 : decode b_M_mount 5 = .ok (.aload_n 0, 1) := by decide +kernel
theorem d_M_mount_6 : decode b_M_mount 6 = .ok (.invokevirtual 72, 3) := by decide +kernel
theorem d_M_mount_9 : decode b_M_mount 9 = .ok (.aload_n 0, 1) := by decide +kernel
theorem d_M_mount_10 : decode b_M_mount 10 = .ok (.iconst 1, 1) := by decide +kernel
theorem d_M_mount_11 : decode b_M_mount 11 = .ok (.putfield 23, 3) := by decide +kernel
theorem d_M_mount_14 : decode b_M_mount 14 = .ok (.aload_n 0, 1) := by decide +kernel
theorem d_M_mount_15 : decode b_M_mount 15 = .ok (.iconst (-1), 1) := by decide +kernel
theorem d_M_mount_16 : decode b_M_mount 16 = .ok (.invokevirtual 195, 3) := by decide +kernel
theorem d_M_mount_19 : decode b_M_mount 19 = .ok (.istore_n 1, 1) := by decide +kernel
theorem d_M_mount_20 : decode b_M_mount 20 = .ok (.aload_n 0, 1) := by decide +kernel
theorem d_M_mount_21 : decode b_M_mount 21 = .ok (.iload_n 1, 1) := by decide +kernel
theorem d_M_mount_22 : decode b_M_mount 22 = .ok (.ifCond .ge (7), 3) := by decide +kernel
theorem d_M_mount_25 : decode b_M_mount 25 = .ok (.iconst 0, 1) := by decide +kernel
theorem d_M_mount_26 : decode b_M_mount 26 = .ok (.goto (14), 3) := by decide +kernel
theorem d_M_mount_29 : decode b_M_mount 29 = .ok (.aload_n 0, 1) := by decide +kernel
theorem d_M_mount_30 : decode b_M_mount 30 = .ok (.getfield 7, 3) := by decide +kernel
theorem d_M_mount_33 : decode b_M_mount 33 = .ok (.bipush 16, 2) := by decide +kernel
theorem d_M_mount_35 : decode b_M_mount 35 = .ok (.iload_n 1, 1) := by decide +kernel
theorem d_M_mount_36 : decode b_M_mount 36 = .ok (.imul, 1) := by decide +kernel
theorem d_M_mount_37 : decode b_M_mount 37 = .ok (.iconst 1, 1) := by decide +kernel
theorem d_M_mount_38 : decode b_M_mount 38 = .ok (.iadd, 1) := by decide +kernel
theorem d_M_mount_39 : decode b_M_mount 39 = .ok (.iaload, 1) := by decide +kernel
theorem d_M_mount_40 : decode b_M_mount 40 = .ok (.putfield 55, 3) := by decide +kernel
theorem d_M_mount_43 : decode b_M_mount 43 = .ok (.aload_n 0, 1) := by decide +kernel
theorem d_M_mount_44 : decode b_M_mount 44 = .ok (.iload_n 1, 1) := by decide +kernel
theorem d_M_mount_45 : decode b_M_mount 45 = .ok (.ifCond .ge (7), 3) := by decide +kernel
theorem d_M_mount_48 : decode b_M_mount 48 = .ok (.iconst (-1), 1) := by decide +kernel
theorem d_M_mount_49 : decode b_M_mount 49 = .ok (.goto (6), 3) := by decide +kernel
theorem d_M_mount_52 : decode b_M_mount 52 = .ok (.iload_n 1, 1) := by decide +kernel
theorem d_M_mount_53 : decode b_M_mount 53 = .ok (.iconst 4, 1) := by decide +kernel
theorem d_M_mount_54 : decode b_M_mount 54 = .ok (.idiv, 1) := by decide +kernel
theorem d_M_mount_55 : decode b_M_mount 55 = .ok (.putfield 40, 3) := by decide +kernel
theorem d_M_mount_58 : decode b_M_mount 58 = .ok (.iconst 1, 1) := by decide +kernel
theorem d_M_mount_59 : decode b_M_mount 59 = .ok (.istore_n 2, 1) := by decide +kernel
theorem d_M_mount_60 : decode b_M_mount 60 = .ok (.iconst 0, 1) := by decide +kernel
theorem d_M_mount_61 : decode b_M_mount 61 = .ok (.istore_n 3, 1) := by decide +kernel
theorem d_M_mount_62 : decode b_M_mount 62 = .ok (.iload_n 3, 1) := by decide +kernel
theorem d_M_mount_63 : decode b_M_mount 63 = .ok (.bipush 16, 2) := by decide +kernel
theorem d_M_mount_65 : decode b_M_mount 65 = .ok (.if_icmp .ge (134), 3) := by decide +kernel
theorem d_M_mount_68 : decode b_M_mount 68 = .ok (.iload_n 2, 1) := by decide +kernel
theorem d_M_mount_69 : decode b_M_mount 69 = .ok (.ifCond .eq (130), 3) := by decide +kernel
theorem d_M_mount_72 : decode b_M_mount 72 = .ok (.aload_n 0, 1) := by decide +kernel
theorem d_M_mount_73 : decode b_M_mount 73 = .ok (.iload_n 3, 1) := by decide +kernel
theorem d_M_mount_74 : decode b_M_mount 74 = .ok (.invokevirtual 195, 3) := by decide +kernel
theorem d_M_mount_77 : decode b_M_mount 77 = .ok (.istore 4, 2) := by decide +kernel
theorem d_M_mount_79 : decode b_M_mount 79 = .ok (.iload 4, 2) := by decide +kernel
theorem d_M_mount_81 : decode b_M_mount 81 = .ok (.ifCond .ge (6), 3) := by decide +kernel
theorem d_M_mount_84 : decode b_M_mount 84 = .ok (.goto (115), 3) := by decide +kernel
theorem d_M_mount_87 : decode b_M_mount 87 = .ok (.aload_n 0, 1) := by decide +kernel
theorem d_M_mount_88 : decode b_M_mount 88 = .ok (.getfield 34, 3) := by decide +kernel
theorem d_M_mount_91 : decode b_M_mount 91 = .ok (.iload_n 3, 1) := by decide +kernel
theorem d_M_mount_92 : decode b_M_mount 92 = .ok (.iload 4, 2) := by decide +kernel
theorem d_M_mount_94 : decode b_M_mount 94 = .ok (.iastore, 1) := by decide +kernel
theorem d_M_mount_95 : decode b_M_mount 95 = .ok (.aload_n 0, 1) := by decide +kernel
theorem d_M_mount_96 : decode b_M_mount 96 = .ok (.getfield 37, 3) := by decide +kernel
theorem d_M_mount_99 : decode b_M_mount 99 = .ok (.iload_n 3, 1) := by decide +kernel
theorem d_M_mount_100 : decode b_M_mount 100 = .ok (.aload_n 0, 1) := by decide +kernel
theorem d_M_mount_101 : decode b_M_mount 101 = .ok (.getfield 7, 3) := by decide +kernel
theorem d_M_mount_104 : decode b_M_mount 104 = .ok (.bipush 16, 2) := by decide +kernel
theorem d_M_mount_106 : decode b_M_mount 106 = .ok (.iload 4, 2) := by decide +kernel
theorem d_M_mount_108 : decode b_M_mount 108 = .ok (.imul, 1) := by decide +kernel
theorem d_M_mount_109 : decode b_M_mount 109 = .ok (.iaload, 1) := by decide +kernel
theorem d_M_mount_110 : decode b_M_mount 110 = .ok (.iconst 4, 1) := by decide +kernel
theorem d_M_mount_111 : decode b_M_mount 111 = .ok (.irem, 1) := by decide +kernel
theorem d_M_mount_112 : decode b_M_mount 112 = .ok (.iastore, 1) := by decide +kernel
theorem d_M_mount_113 : decode b_M_mount 113 = .ok (.iconst 0, 1) := by decide +kernel
theorem d_M_mount_114 : decode b_M_mount 114 = .ok (.istore 5, 2) := by decide +kernel
theorem d_M_mount_116 : decode b_M_mount 116 = .ok (.iload 5, 2) := by decide +kernel
theorem d_M_mount_118 : decode b_M_mount 118 = .ok (.iconst 4, 1) := by decide +kernel
theorem d_M_mount_119 : decode b_M_mount 119 = .ok (.aload_n 0, 1) := by decide +kernel
theorem d_M_mount_120 : decode b_M_mount 120 = .ok (.getfield 37, 3) := by decide +kernel
theorem d_M_mount_123 : decode b_M_mount 123 = .ok (.iload_n 3, 1) := by decide +kernel
theorem d_M_mount_124 : decode b_M_mount 124 = .ok (.iaload, 1) := by decide +kernel
theorem d_M_mount_125 : decode b_M_mount 125 = .ok (.imul, 1) := by decide +kernel
theorem d_M_mount_126 : decode b_M_mount 126 = .ok (.if_icmp .ge (36), 3) := by decide +kernel
theorem d_M_mount_129 : decode b_M_mount 129 = .ok (.aload_n 0, 1) := by decide +kernel
theorem d_M_mount_130 : decode b_M_mount 130 = .ok (.getfield 31, 3) := by decide +kernel
theorem d_M_mount_133 : decode b_M_mount 133 = .ok (.bipush 12, 2) := by decide +kernel
theorem d_M_mount_135 : decode b_M_mount 135 = .ok (.iload_n 3, 1) := by decide +kernel
theorem d_M_mount_136 : decode b_M_mount 136 = .ok (.imul, 1) := by decide +kernel
theorem d_M_mount_137 : decode b_M_mount 137 = .ok (.iload 5, 2) := by decide +kernel
theorem d_M_mount_139 : decode b_M_mount 139 = .ok (.iadd, 1) := by decide +kernel
theorem d_M_mount_140 : decode b_M_mount 140 = .ok (.aload_n 0, 1) := by decide +kernel
theorem d_M_mount_141 : decode b_M_mount 141 = .ok (.getfield 7, 3) := by decide +kernel
theorem d_M_mount_144 : decode b_M_mount 144 = .ok (.bipush 16, 2) := by decide +kernel
theorem d_M_mount_146 : decode b_M_mount 146 = .ok (.iload 4, 2) := by decide +kernel
theorem d_M_mount_148 : decode b_M_mount 148 = .ok (.imul, 1) := by decide +kernel
theorem d_M_mount_149 : decode b_M_mount 149 = .ok (.iconst 2, 1) := by decide +kernel
theorem d_M_mount_150 : decode b_M_mount 150 = .ok (.iadd, 1) := by decide +kernel
theorem d_M_mount_151 : decode b_M_mount 151 = .ok (.iload 5, 2) := by decide +kernel
theorem d_M_mount_153 : decode b_M_mount 153 = .ok (.iadd, 1) := by decide +kernel
theorem d_M_mount_154 : decode b_M_mount 154 = .ok (.iaload, 1) := by decide +kernel
theorem d_M_mount_155 : decode b_M_mount 155 = .ok (.iastore, 1) := by decide +kernel
theorem d_M_mount_156 : decode b_M_mount 156 = .ok (.iinc 5 1, 3) := by decide +kernel
theorem d_M_mount_159 : decode b_M_mount 159 = .ok (.goto (-43), 3) := by decide +kernel
theorem d_M_mount_162 : decode b_M_mount 162 = .ok (.aload_n 0, 1) := by decide +kernel
theorem d_M_mount_163 : decode b_M_mount 163 = .ok (.dup, 1) := by decide +kernel
theorem d_M_mount_164 : decode b_M_mount 164 = .ok (.getfield 52, 3) := by decide +kernel
theorem d_M_mount_167 : decode b_M_mount 167 = .ok (.aload_n 0, 1) := by decide +kernel
theorem d_M_mount_168 : decode b_M_mount 168 = .ok (.getfield 37, 3) := by decide +kernel
theorem d_M_mount_171 : decode b_M_mount 171 = .ok (.iload_n 3, 1) := by decide +kernel
theorem d_M_mount_172 : decode b_M_mount 172 = .ok (.iaload, 1) := by decide +kernel
theorem d_M_mount_173 : decode b_M_mount 173 = .ok (.iadd, 1) := by decide +kernel
theorem d_M_mount_174 : decode b_M_mount 174 = .ok (.putfield 52, 3) := by decide +kernel
theorem d_M_mount_177 : decode b_M_mount 177 = .ok (.aload_n 0, 1) := by decide +kernel
theorem d_M_mount_178 : decode b_M_mount 178 = .ok (.getfield 37, 3) := by decide +kernel
theorem d_M_mount_181 : decode b_M_mount 181 = .ok (.iload_n 3, 1) := by decide +kernel
theorem d_M_mount_182 : decode b_M_mount 182 = .ok (.iaload, 1) := by decide +kernel
theorem d_M_mount_183 : decode b_M_mount 183 = .ok (.iconst 3, 1) := by decide +kernel
theorem d_M_mount_184 : decode b_M_mount 184 = .ok (.if_icmp .ne (7), 3) := by decide +kernel
theorem d_M_mount_187 : decode b_M_mount 187 = .ok (.iconst 1, 1) := by decide +kernel
theorem d_M_mount_188 : decode b_M_mount 188 = .ok (.goto (4), 3) := by decide +kernel
theorem d_M_mount_191 : decode b_M_mount 191 = .ok (.iconst 0, 1) := by decide +kernel
theorem d_M_mount_192 : decode b_M_mount 192 = .ok (.istore_n 2, 1) := by decide +kernel
theorem d_M_mount_193 : decode b_M_mount 193 = .ok (.iinc 3 1, 3) := by decide +kernel
theorem d_M_mount_196 : decode b_M_mount 196 = .ok (.goto (-134), 3) := by decide +kernel
theorem d_M_mount_199 : decode b_M_mount 199 = .ok (.aload_n 0, 1) := by decide +kernel
theorem d_M_mount_200 : decode b_M_mount 200 = .ok (.invokevirtual 149, 3) := by decide +kernel
theorem d_M_mount_203 : decode b_M_mount 203 = .ok (.ireturn, 1) := by decide +kernel
theorem d_M_wearOf_0 : decode b_M_wearOf 0 = .ok (.aload_n 0, 1) := by decide +kernel
theorem d_M_wearOf_1 : decode b_M_wearOf 1 = .ok (.iconst 1, 1) := by decide +kernel
theorem d_M_wearOf_2 : decode b_M_wearOf 2 = .ok (.iload_n 1, 1) := by decide +kernel
theorem d_M_wearOf_3 : decode b_M_wearOf 3 = .ok (.iconst 0, 1) := by decide +kernel
theorem d_M_wearOf_4 : decode b_M_wearOf 4 = .ok (.bipush 7, 2) := by decide +kernel
theorem d_M_wearOf_6 : decode b_M_wearOf 6 = .ok (.invokestatic 130, 3) := by decide +kernel
theorem d_M_wearOf_9 : decode b_M_wearOf 9 = .ok (.ifCond .ne (7), 3) := by decide +kernel
theorem d_M_wearOf_12 : decode b_M_wearOf 12 = .ok (.iconst 1, 1) := by decide +kernel
theorem d_M_wearOf_13 : decode b_M_wearOf 13 = .ok (.goto (4), 3) := by decide +kernel
theorem d_M_wearOf_16 : decode b_M_wearOf 16 = .ok (.iconst 0, 1) := by decide +kernel
theorem d_M_wearOf_17 : decode b_M_wearOf 17 = .ok (.invokevirtual 137, 3) := by decide +kernel
theorem d_M_wearOf_20 : decode b_M_wearOf 20 = .ok (.ifCond .eq (7), 3) := by decide +kernel
theorem d_M_wearOf_23 : decode b_M_wearOf 23 = .ok (.iconst 0, 1) := by decide +kernel
theorem d_M_wearOf_24 : decode b_M_wearOf 24 = .ok (.goto (9), 3) := by decide +kernel
theorem d_M_wearOf_27 : decode b_M_wearOf 27 = .ok (.aload_n 0, 1) := by decide +kernel
theorem d_M_wearOf_28 : decode b_M_wearOf 28 = .ok (.getfield 13, 3) := by decide +kernel
theorem d_M_wearOf_31 : decode b_M_wearOf 31 = .ok (.iload_n 1, 1) := by decide +kernel
theorem d_M_wearOf_32 : decode b_M_wearOf 32 = .ok (.iaload, 1) := by decide +kernel
theorem d_M_wearOf_33 : decode b_M_wearOf 33 = .ok (.ireturn, 1) := by decide +kernel
theorem d_M_failBlock_0 : decode b_M_failBlock 0 = .ok (.aload_n 0, 1) := by decide +kernel
theorem d_M_failBlock_1 : decode b_M_failBlock 1 = .ok (.iconst 1, 1) := by decide +kernel
theorem d_M_failBlock_2 : decode b_M_failBlock 2 = .ok (.iload_n 1, 1) := by decide +kernel
theorem d_M_failBlock_3 : decode b_M_failBlock 3 = .ok (.iconst 0, 1) := by decide +kernel
theorem d_M_failBlock_4 : decode b_M_failBlock 4 = .ok (.bipush 7, 2) := by decide +kernel
theorem d_M_failBlock_6 : decode b_M_failBlock 6 = .ok (.invokestatic 130, 3) := by decide +kernel
theorem d_M_failBlock_9 : decode b_M_failBlock 9 = .ok (.ifCond .ne (7), 3) := by decide +kernel
theorem d_M_failBlock_12 : decode b_M_failBlock 12 = .ok (.iconst 1, 1) := by decide +kernel
theorem d_M_failBlock_13 : decode b_M_failBlock 13 = .ok (.goto (4), 3) := by decide +kernel
theorem d_M_failBlock_16 : decode b_M_failBlock 16 = .ok (.iconst 0, 1) := by decide +kernel
theorem d_M_failBlock_17 : decode b_M_failBlock 17 = .ok (.invokevirtual 137, 3) := by decide +kernel
theorem d_M_failBlock_20 : decode b_M_failBlock 20 = .ok (.ifCond .ne (10), 3) := by decide +kernel
theorem d_M_failBlock_23 : decode b_M_failBlock 23 = .ok (.aload_n 0, 1) := by decide +kernel
theorem d_M_failBlock_24 : decode b_M_failBlock 24 = .ok (.getfield 16, 3) := by decide +kernel
theorem d_M_failBlock_27 : decode b_M_failBlock 27 = .ok (.iload_n 1, 1) := by decide +kernel
theorem d_M_failBlock_28 : decode b_M_failBlock 28 = .ok (.iconst 1, 1) := by decide +kernel
theorem d_M_failBlock_29 : decode b_M_failBlock 29 = .ok (.bastore, 1) := by decide +kernel
theorem d_M_failBlock_30 : decode b_M_failBlock 30 = .ok (.return_, 1) := by decide +kernel
theorem d_M_poke_0 : decode b_M_poke 0 = .ok (.aload_n 0, 1) := by decide +kernel
theorem d_M_poke_1 : decode b_M_poke 1 = .ok (.iconst 1, 1) := by decide +kernel
theorem d_M_poke_2 : decode b_M_poke 2 = .ok (.iload_n 1, 1) := by decide +kernel
theorem d_M_poke_3 : decode b_M_poke 3 = .ok (.iconst 0, 1) := by decide +kernel
theorem d_M_poke_4 : decode b_M_poke 4 = .ok (.bipush 31, 2) := by decide +kernel
theorem d_M_poke_6 : decode b_M_poke 6 = .ok (.invokestatic 130, 3) := by decide +kernel
theorem d_M_poke_9 : decode b_M_poke 9 = .ok (.ifCond .eq (13), 3) := by decide +kernel
theorem d_M_poke_12 : decode b_M_poke 12 = .ok (.iload_n 2, 1) := by decide +kernel
theorem d_M_poke_13 : decode b_M_poke 13 = .ok (.iconst 0, 1) := by decide +kernel
theorem d_M_poke_14 : decode b_M_poke 14 = .ok (.bipush 15, 2) := by decide +kernel
theorem d_M_poke_16 : decode b_M_poke 16 = .ok (.invokestatic 130, 3) := by decide +kernel
theorem d_M_poke_19 : decode b_M_poke 19 = .ok (.ifCond .ne (7), 3) := by decide +kernel
theorem d_M_poke_22 : decode b_M_poke 22 = .ok (.iconst 1, 1) := by decide +kernel
theorem d_M_poke_23 : decode b_M_poke 23 = .ok (.goto (4), 3) := by decide +kernel
theorem d_M_poke_26 : decode b_M_poke 26 = .ok (.iconst 0, 1) := by decide +kernel
theorem d_M_poke_27 : decode b_M_poke 27 = .ok (.invokevirtual 137, 3) := by decide +kernel
theorem d_M_poke_30 : decode b_M_poke 30 = .ok (.ifCond .ne (18), 3) := by decide +kernel
theorem d_M_poke_33 : decode b_M_poke 33 = .ok (.aload_n 0, 1) := by decide +kernel
theorem d_M_poke_34 : decode b_M_poke 34 = .ok (.getfield 7, 3) := by decide +kernel
theorem d_M_poke_37 : decode b_M_poke 37 = .ok (.bipush 16, 2) := by decide +kernel
theorem d_M_poke_39 : decode b_M_poke 39 = .ok (.iload_n 1, 1) := by decide +kernel
theorem d_M_poke_40 : decode b_M_poke 40 = .ok (.imul, 1) := by decide +kernel
theorem d_M_poke_41 : decode b_M_poke 41 = .ok (.iload_n 2, 1) := by decide +kernel
theorem d_M_poke_42 : decode b_M_poke 42 = .ok (.iadd, 1) := by decide +kernel
theorem d_M_poke_43 : decode b_M_poke 43 = .ok (.dup2, 1) := by decide +kernel
theorem d_M_poke_44 : decode b_M_poke 44 = .ok (.iaload, 1) := by decide +kernel
theorem d_M_poke_45 : decode b_M_poke 45 = .ok (.iload_n 3, 1) := by decide +kernel
theorem d_M_poke_46 : decode b_M_poke 46 = .ok (.ixor, 1) := by decide +kernel
theorem d_M_poke_47 : decode b_M_poke 47 = .ok (.iastore, 1) := by decide +kernel
theorem d_M_poke_48 : decode b_M_poke 48 = .ok (.return_, 1) := by decide +kernel
theorem d_M_word_0 : decode b_M_word 0 = .ok (.aload_n 0, 1) := by decide +kernel
theorem d_M_word_1 : decode b_M_word 1 = .ok (.iconst 1, 1) := by decide +kernel
theorem d_M_word_2 : decode b_M_word 2 = .ok (.iload_n 1, 1) := by decide +kernel
theorem d_M_word_3 : decode b_M_word 3 = .ok (.iconst 0, 1) := by decide +kernel
theorem d_M_word_4 : decode b_M_word 4 = .ok (.bipush 31, 2) := by decide +kernel
theorem d_M_word_6 : decode b_M_word 6 = .ok (.invokestatic 130, 3) := by decide +kernel
theorem d_M_word_9 : decode b_M_word 9 = .ok (.ifCond .eq (13), 3) := by decide +kernel
theorem d_M_word_12 : decode b_M_word 12 = .ok (.iload_n 2, 1) := by decide +kernel
theorem d_M_word_13 : decode b_M_word 13 = .ok (.iconst 0, 1) := by decide +kernel
theorem d_M_word_14 : decode b_M_word 14 = .ok (.bipush 15, 2) := by decide +kernel
theorem d_M_word_16 : decode b_M_word 16 = .ok (.invokestatic 130, 3) := by decide +kernel
theorem d_M_word_19 : decode b_M_word 19 = .ok (.ifCond .ne (7), 3) := by decide +kernel
theorem d_M_word_22 : decode b_M_word 22 = .ok (.iconst 1, 1) := by decide +kernel
theorem d_M_word_23 : decode b_M_word 23 = .ok (.goto (4), 3) := by decide +kernel
theorem d_M_word_26 : decode b_M_word 26 = .ok (.iconst 0, 1) := by decide +kernel
theorem d_M_word_27 : decode b_M_word 27 = .ok (.invokevirtual 137, 3) := by decide +kernel
theorem d_M_word_30 : decode b_M_word 30 = .ok (.ifCond .eq (7), 3) := by decide +kernel
theorem d_M_word_33 : decode b_M_word 33 = .ok (.iconst 0, 1) := by decide +kernel
theorem d_M_word_34 : decode b_M_word 34 = .ok (.goto (14), 3) := by decide +kernel
theorem d_M_word_37 : decode b_M_word 37 = .ok (.aload_n 0, 1) := by decide +kernel
theorem d_M_word_38 : decode b_M_word 38 = .ok (.getfield 7, 3) := by decide +kernel
theorem d_M_word_41 : decode b_M_word 41 = .ok (.bipush 16, 2) := by decide +kernel
theorem d_M_word_43 : decode b_M_word 43 = .ok (.iload_n 1, 1) := by decide +kernel
theorem d_M_word_44 : decode b_M_word 44 = .ok (.imul, 1) := by decide +kernel
theorem d_M_word_45 : decode b_M_word 45 = .ok (.iload_n 2, 1) := by decide +kernel
theorem d_M_word_46 : decode b_M_word 46 = .ok (.iadd, 1) := by decide +kernel
theorem d_M_word_47 : decode b_M_word 47 = .ok (.iaload, 1) := by decide +kernel
theorem d_M_word_48 : decode b_M_word 48 = .ok (.ireturn, 1) := by decide +kernel
theorem d_M_state_0 : decode b_M_state 0 = .ok (.aload_n 0, 1) := by decide +kernel
theorem d_M_state_1 : decode b_M_state 1 = .ok (.iconst 0, 1) := by decide +kernel
theorem d_M_state_2 : decode b_M_state 2 = .ok (.putfield 49, 3) := by decide +kernel
theorem d_M_state_5 : decode b_M_state 5 = .ok (.iload_n 1, 1) := by decide +kernel
theorem d_M_state_6 : decode b_M_state 6 = .ok (.tableswitch 103 0 8 #[50, 55, 60, 65, 70, 75, 80, 85, 90], 50) := by decide +kernel
theorem d_M_state_56 : decode b_M_state 56 = .ok (.aload_n 0, 1) := by decide +kernel
theorem d_M_state_57 : decode b_M_state 57 = .ok (.getfield 52, 3) := by decide +kernel
theorem d_M_state_60 : decode b_M_state 60 = .ok (.ireturn, 1) := by decide +kernel
theorem d_M_state_61 : decode b_M_state 61 = .ok (.aload_n 0, 1) := by decide +kernel
theorem d_M_state_62 : decode b_M_state 62 = .ok (.invokevirtual 156, 3) := by decide +kernel
theorem d_M_state_65 : decode b_M_state 65 = .ok (.ireturn, 1) := by decide +kernel
theorem d_M_state_66 : decode b_M_state 66 = .ok (.aload_n 0, 1) := by decide +kernel
theorem d_M_state_67 : decode b_M_state 67 = .ok (.invokevirtual 149, 3) := by decide +kernel
theorem d_M_state_70 : decode b_M_state 70 = .ok (.ireturn, 1) := by decide +kernel
theorem d_M_state_71 : decode b_M_state 71 = .ok (.aload_n 0, 1) := by decide +kernel
theorem d_M_state_72 : decode b_M_state 72 = .ok (.invokevirtual 198, 3) := by decide +kernel
theorem d_M_state_75 : decode b_M_state 75 = .ok (.ireturn, 1) := by decide +kernel
theorem d_M_state_76 : decode b_M_state 76 = .ok (.aload_n 0, 1) := by decide +kernel
theorem d_M_state_77 : decode b_M_state 77 = .ok (.getfield 58, 3) := by decide +kernel
theorem d_M_state_80 : decode b_M_state 80 = .ok (.ireturn, 1) := by decide +kernel
theorem d_M_state_81 : decode b_M_state 81 = .ok (.aload_n 0, 1) := by decide +kernel
theorem d_M_state_82 : decode b_M_state 82 = .ok (.getfield 55, 3) := by decide +kernel
theorem d_M_state_85 : decode b_M_state 85 = .ok (.ireturn, 1) := by decide +kernel
theorem d_M_state_86 : decode b_M_state 86 = .ok (.aload_n 0, 1) := by decide +kernel
theorem d_M_state_87 : decode b_M_state 87 = .ok (.getfield 40, 3) := by decide +kernel
theorem d_M_state_90 : decode b_M_state 90 = .ok (.ireturn, 1) := by decide +kernel
theorem d_M_state_91 : decode b_M_state 91 = .ok (.aload_n 0, 1) := by decide +kernel
theorem d_M_state_92 : decode b_M_state 92 = .ok (.invokevirtual 201, 3) := by decide +kernel
theorem d_M_state_95 : decode b_M_state 95 = .ok (.ireturn, 1) := by decide +kernel
theorem d_M_state_96 : decode b_M_state 96 = .ok (.aload_n 0, 1) := by decide +kernel
theorem d_M_state_97 : decode b_M_state 97 = .ok (.getfield 23, 3) := by decide +kernel
theorem d_M_state_100 : decode b_M_state 100 = .ok (.ifCond .eq (7), 3) := by decide +kernel
theorem d_M_state_103 : decode b_M_state 103 = .ok (.iconst 1, 1) := by decide +kernel
theorem d_M_state_104 : decode b_M_state 104 = .ok (.goto (4), 3) := by decide +kernel
theorem d_M_state_107 : decode b_M_state 107 = .ok (.iconst 0, 1) := by decide +kernel
theorem d_M_state_108 : decode b_M_state 108 = .ok (.ireturn, 1) := by decide +kernel
theorem d_M_state_109 : decode b_M_state 109 = .ok (.iconst (-1), 1) := by decide +kernel
theorem d_M_state_110 : decode b_M_state 110 = .ok (.ireturn, 1) := by decide +kernel
theorem d_R_requireArgument_0 : decode b_R_requireArgument 0 = .ok (.iload_n 0, 1) := by decide +kernel
theorem d_R_requireArgument_1 : decode b_R_requireArgument 1 = .ok (.ifCond .ne (11), 3) := by decide +kernel
theorem d_R_requireArgument_4 : decode b_R_requireArgument 4 = .ok (.new 210, 3) := by decide +kernel
theorem d_R_requireArgument_7 : decode b_R_requireArgument 7 = .ok (.dup, 1) := by decide +kernel
theorem d_R_requireArgument_8 : decode b_R_requireArgument 8 = .ok (.invokespecial 212, 3) := by decide +kernel
theorem d_R_requireArgument_11 : decode b_R_requireArgument 11 = .ok (.athrow, 1) := by decide +kernel
theorem d_R_requireArgument_12 : decode b_R_requireArgument 12 = .ok (.return_, 1) := by decide +kernel
theorem d_R_requireState_0 : decode b_R_requireState 0 = .ok (.iload_n 0, 1) := by decide +kernel
theorem d_R_requireState_1 : decode b_R_requireState 1 = .ok (.ifCond .ne (11), 3) := by decide +kernel
theorem d_R_requireState_4 : decode b_R_requireState 4 = .ok (.new 213, 3) := by decide +kernel
theorem d_R_requireState_7 : decode b_R_requireState 7 = .ok (.dup, 1) := by decide +kernel
theorem d_R_requireState_8 : decode b_R_requireState 8 = .ok (.invokespecial 215, 3) := by decide +kernel
theorem d_R_requireState_11 : decode b_R_requireState 11 = .ok (.athrow, 1) := by decide +kernel
theorem d_R_requireState_12 : decode b_R_requireState 12 = .ok (.return_, 1) := by decide +kernel
theorem d_R_requireIndex_0 : decode b_R_requireIndex 0 = .ok (.iload_n 0, 1) := by decide +kernel
theorem d_R_requireIndex_1 : decode b_R_requireIndex 1 = .ok (.ifCond .ne (11), 3) := by decide +kernel
theorem d_R_requireIndex_4 : decode b_R_requireIndex 4 = .ok (.new 216, 3) := by decide +kernel
theorem d_R_requireIndex_7 : decode b_R_requireIndex 7 = .ok (.dup, 1) := by decide +kernel
theorem d_R_requireIndex_8 : decode b_R_requireIndex 8 = .ok (.invokespecial 218, 3) := by decide +kernel
theorem d_R_requireIndex_11 : decode b_R_requireIndex 11 = .ok (.athrow, 1) := by decide +kernel
theorem d_R_requireIndex_12 : decode b_R_requireIndex 12 = .ok (.return_, 1) := by decide +kernel
theorem d_R_isProduct_0 : decode b_R_isProduct 0 = .ok (.iload_n 0, 1) := by decide +kernel
theorem d_R_isProduct_1 : decode b_R_isProduct 1 = .ok (.iconst 0, 1) := by decide +kernel
theorem d_R_isProduct_2 : decode b_R_isProduct 2 = .ok (.bipush 39, 2) := by decide +kernel
theorem d_R_isProduct_4 : decode b_R_isProduct 4 = .ok (.invokestatic 48, 3) := by decide +kernel
theorem d_R_isProduct_7 : decode b_R_isProduct 7 = .ok (.ireturn, 1) := by decide +kernel
theorem d_R_isPlace_0 : decode b_R_isPlace 0 = .ok (.iload_n 0, 1) := by decide +kernel
theorem d_R_isPlace_1 : decode b_R_isPlace 1 = .ok (.iconst 0, 1) := by decide +kernel
theorem d_R_isPlace_2 : decode b_R_isPlace 2 = .ok (.bipush 31, 2) := by decide +kernel
theorem d_R_isPlace_4 : decode b_R_isPlace 4 = .ok (.invokestatic 48, 3) := by decide +kernel
theorem d_R_isPlace_7 : decode b_R_isPlace 7 = .ok (.ifCond .eq (17), 3) := by decide +kernel
theorem d_R_isPlace_10 : decode b_R_isPlace 10 = .ok (.iload_n 1, 1) := by decide +kernel
theorem d_R_isPlace_11 : decode b_R_isPlace 11 = .ok (.iconst 0, 1) := by decide +kernel
theorem d_R_isPlace_12 : decode b_R_isPlace 12 = .ok (.bipush 15, 2) := by decide +kernel
theorem d_R_isPlace_14 : decode b_R_isPlace 14 = .ok (.invokestatic 48, 3) := by decide +kernel
theorem d_R_isPlace_17 : decode b_R_isPlace 17 = .ok (.ifCond .eq (7), 3) := by decide +kernel
theorem d_R_isPlace_20 : decode b_R_isPlace 20 = .ok (.iconst 1, 1) := by decide +kernel
theorem d_R_isPlace_21 : decode b_R_isPlace 21 = .ok (.goto (4), 3) := by decide +kernel
theorem d_R_isPlace_24 : decode b_R_isPlace 24 = .ok (.iconst 0, 1) := by decide +kernel
theorem d_R_isPlace_25 : decode b_R_isPlace 25 = .ok (.ireturn, 1) := by decide +kernel
theorem d_R_axle_0 : decode b_R_axle 0 = .ok (.iload_n 1, 1) := by decide +kernel
theorem d_R_axle_1 : decode b_R_axle 1 = .ok (.iconst 1, 1) := by decide +kernel
theorem d_R_axle_2 : decode b_R_axle 2 = .ok (.sipush 1200, 3) := by decide +kernel
theorem d_R_axle_5 : decode b_R_axle 5 = .ok (.invokestatic 48, 3) := by decide +kernel
theorem d_R_axle_8 : decode b_R_axle 8 = .ok (.invokestatic 52, 3) := by decide +kernel
theorem d_R_axle_11 : decode b_R_axle 11 = .ok (.aload_n 0, 1) := by decide +kernel
theorem d_R_axle_12 : decode b_R_axle 12 = .ok (.getfield 20, 3) := by decide +kernel
theorem d_R_axle_15 : decode b_R_axle 15 = .ok (.invokevirtual 56, 3) := by decide +kernel
theorem d_R_axle_18 : decode b_R_axle 18 = .ok (.ifCond .eq (16), 3) := by decide +kernel
theorem d_R_axle_21 : decode b_R_axle 21 = .ok (.aload_n 0, 1) := by decide +kernel
theorem d_R_axle_22 : decode b_R_axle 22 = .ok (.getfield 41, 3) := by decide +kernel
theorem d_R_axle_25 : decode b_R_axle 25 = .ok (.bipush 9, 2) := by decide +kernel
theorem d_R_axle_27 : decode b_R_axle 27 = .ok (.if_icmp .ge (7), 3) := by decide +kernel
theorem d_R_axle_30 : decode b_R_axle 30 = .ok (.iconst 1, 1) := by decide +kernel
theorem d_R_axle_31 : decode b_R_axle 31 = .ok (.goto (4), 3) := by decide +kernel
theorem d_R_axle_34 : decode b_R_axle 34 = .ok (.iconst 0, 1) := by decide +kernel
theorem d_R_axle_35 : decode b_R_axle 35 = .ok (.invokestatic 62, 3) := by decide +kernel
theorem d_R_axle_38 : decode b_R_axle 38 = .ok (.aload_n 0, 1) := by decide +kernel
theorem d_R_axle_39 : decode b_R_axle 39 = .ok (.dup, 1) := by decide +kernel
theorem d_R_axle_40 : decode b_R_axle 40 = .ok (.getfield 41, 3) := by decide +kernel
theorem d_R_axle_43 : decode b_R_axle 43 = .ok (.iconst 1, 1) := by decide +kernel
theorem d_R_axle_44 : decode b_R_axle 44 = .ok (.iadd, 1) := by decide +kernel
theorem d_R_axle_45 : decode b_R_axle 45 = .ok (.putfield 41, 3) := by decide +kernel
theorem d_R_axle_48 : decode b_R_axle 48 = .ok (.aload_n 0, 1) := by decide +kernel
theorem d_R_axle_49 : decode b_R_axle 49 = .ok (.dup, 1) := by decide +kernel
theorem d_R_axle_50 : decode b_R_axle 50 = .ok (.getfield 45, 3) := by decide +kernel
theorem d_R_axle_53 : decode b_R_axle 53 = .ok (.iload_n 1, 1) := by decide +kernel
theorem d_R_axle_54 : decode b_R_axle 54 = .ok (.iadd, 1) := by decide +kernel
theorem d_R_axle_55 : decode b_R_axle 55 = .ok (.putfield 45, 3) := by decide +kernel
theorem d_R_axle_58 : decode b_R_axle 58 = .ok (.aload_n 0, 1) := by decide +kernel
theorem d_R_axle_59 : decode b_R_axle 59 = .ok (.getfield 41, 3) := by decide +kernel
theorem d_R_axle_62 : decode b_R_axle 62 = .ok (.ireturn, 1) := by decide +kernel
theorem d_R_close_0 : decode b_R_close 0 = .ok (.iload_n 2, 1) := by decide +kernel
theorem d_R_close_1 : decode b_R_close 1 = .ok (.iconst 0, 1) := by decide +kernel
theorem d_R_close_2 : decode b_R_close 2 = .ok (.ldc 65, 2) := by decide +kernel
theorem d_R_close_4 : decode b_R_close 4 = .ok (.invokestatic 48, 3) := by decide +kernel
theorem d_R_close_7 : decode b_R_close 7 = .ok (.invokestatic 52, 3) := by decide +kernel
theorem d_R_close_10 : decode b_R_close 10 = .ok (.iload_n 3, 1) := by decide +kernel
theorem d_R_close_11 : decode b_R_close 11 = .ok (.invokestatic 66, 3) := by decide +kernel
theorem d_R_close_14 : decode b_R_close 14 = .ok (.invokestatic 52, 3) := by decide +kernel
theorem d_R_close_17 : decode b_R_close 17 = .ok (.iload 4, 2) := by decide +kernel
theorem d_R_close_19 : decode b_R_close 19 = .ok (.iconst 0, 1) := by decide +kernel
theorem d_R_close_20 : decode b_R_close 20 = .ok (.ldc 70, 2) := by decide +kernel
theorem d_R_close_22 : decode b_R_close 22 = .ok (.invokestatic 48, 3) := by decide +kernel
theorem d_R_close_25 : decode b_R_close 25 = .ok (.invokestatic 52, 3) := by decide +kernel
theorem d_R_close_28 : decode b_R_close 28 = .ok (.aload_n 0, 1) := by decide +kernel
theorem d_R_close_29 : decode b_R_close 29 = .ok (.getfield 20, 3) := by decide +kernel
theorem d_R_close_32 : decode b_R_close 32 = .ok (.invokevirtual 56, 3) := by decide +kernel
theorem d_R_close_35 : decode b_R_close 35 = .ok (.invokestatic 62, 3) := by decide +kernel
theorem d_R_close_38 : decode b_R_close 38 = .ok (.aload_n 0, 1) := by decide +kernel
theorem d_R_close_39 : decode b_R_close 39 = .ok (.getfield 41, 3) := by decide +kernel
theorem d_R_close_42 : decode b_R_close 42 = .ok (.ifCond .eq (33), 3) := by decide +kernel
theorem d_R_close_45 : decode b_R_close 45 = .ok (.aload_n 0, 1) := by decide +kernel
theorem d_R_close_46 : decode b_R_close 46 = .ok (.getfield 37, 3) := by decide +kernel
theorem d_R_close_49 : decode b_R_close 49 = .ok (.iload_n 3, 1) := by decide +kernel
theorem d_R_close_50 : decode b_R_close 50 = .ok (.baload, 1) := by decide +kernel
theorem d_R_close_51 : decode b_R_close 51 = .ok (.ifCond .eq (24), 3) := by decide +kernel
theorem d_R_close_54 : decode b_R_close 54 = .ok (.iload_n 2, 1) := by decide +kernel
theorem d_R_close_55 : decode b_R_close 55 = .ok (.aload_n 0, 1) := by decide +kernel
theorem d_R_close_56 : decode b_R_close 56 = .ok (.getfield 45, 3) := by decide +kernel
theorem d_R_close_59 : decode b_R_close 59 = .ok (.bipush 20, 2) := by decide +kernel
theorem d_R_close_61 : decode b_R_close 61 = .ok (.imul, 1) := by decide +kernel
theorem d_R_close_62 : decode b_R_close 62 = .ok (.if_icmp .gt (13), 3) := by decide +kernel
theorem d_R_close_65 : decode b_R_close 65 = .ok (.aload_n 0, 1) := by decide +kernel
theorem d_R_close_66 : decode b_R_close 66 = .ok (.getfield 26, 3) := by decide +kernel
theorem d_R_close_69 : decode b_R_close 69 = .ok (.invokevirtual 71, 3) := by decide +kernel
theorem d_R_close_72 : decode b_R_close 72 = .ok (.ifCond .eq (5), 3) := by decide +kernel
theorem d_R_close_75 : decode b_R_close 75 = .ok (.iconst 0, 1) := by decide +kernel
theorem d_R_close_76 : decode b_R_close 76 = .ok (.ireturn, 1) := by decide +kernel
theorem d_R_close_77 : decode b_R_close 77 = .ok (.aload_n 0, 1) := by decide +kernel
theorem d_R_close_78 : decode b_R_close 78 = .ok (.iload_n 1, 1) := by decide +kernel
theorem d_R_close_79 : decode b_R_close 79 = .ok (.aload_n 0, 1) := by decide +kernel
theorem d_R_close_80 : decode b_R_close 80 = .ok (.getfield 45, 3) := by decide +kernel
theorem d_R_close_83 : decode b_R_close 83 = .ok (.bipush 18, 2) := by decide +kernel
theorem d_R_close_85 : decode b_R_close 85 = .ok (.ishl, 1) := by decide +kernel
theorem d_R_close_86 : decode b_R_close 86 = .ok (.iload_n 2, 1) := by decide +kernel
theorem d_R_close_87 : decode b_R_close 87 = .ok (.ior, 1) := by decide +kernel
theorem d_R_close_88 : decode b_R_close 88 = .ok (.iload_n 3, 1) := by decide +kernel
theorem d_R_close_89 : decode b_R_close 89 = .ok (.bipush 26, 2) := by decide +kernel
theorem d_R_close_91 : decode b_R_close 91 = .ok (.ishl, 1) := by decide +kernel
theorem d_R_close_92 : decode b_R_close 92 = .ok (.iload 4, 2) := by decide +kernel
theorem d_R_close_94 : decode b_R_close 94 = .ok (.ior, 1) := by decide +kernel
theorem d_R_close_95 : decode b_R_close 95 = .ok (.invokevirtual 74, 3) := by decide +kernel
theorem d_R_close_98 : decode b_R_close 98 = .ok (.istore 5, 2) := by decide +kernel
theorem d_R_close_100 : decode b_R_close 100 = .ok (.iload 5, 2) := by decide +kernel
theorem d_R_close_102 : decode b_R_close 102 = .ok (.iconst 1, 1) := by decide +kernel
theorem d_R_close_103 : decode b_R_close 103 = .ok (.if_icmp .eq (6), 3) := by decide +kernel
theorem d_R_close_106 : decode b_R_close 106 = .ok (.iload 5, 2) := by decide +kernel
theorem d_R_close_108 : decode b_R_close 108 = .ok (.ireturn, 1) := by decide +kernel
theorem d_R_close_109 : decode b_R_close 109 = .ok (.aload_n 0, 1) := by decide +kernel
theorem d_R_close_110 : decode b_R_close 110 = .ok (.invokevirtual 78, 3) := by decide +kernel
theorem d_R_close_113 : decode b_R_close 113 = .ok (.aload_n 0, 1) := by decide +kernel
theorem d_R_close_114 : decode b_R_close 114 = .ok (.getfield 26, 3) := by decide +kernel
theorem d_R_close_117 : decode b_R_close 117 = .ok (.invokevirtual 81, 3) := by decide +kernel
theorem d_R_close_120 : decode b_R_close 120 = .ok (.ireturn, 1) := by decide +kernel
theorem d_R_annul_0 : decode b_R_annul 0 = .ok (.iload_n 2, 1) := by decide +kernel
theorem d_R_annul_1 : decode b_R_annul 1 = .ok (.iconst 0, 1) := by decide +kernel
theorem d_R_annul_2 : decode b_R_annul 2 = .ok (.iconst 3, 1) := by decide +kernel
theorem d_R_annul_3 : decode b_R_annul 3 = .ok (.invokestatic 48, 3) := by decide +kernel
theorem d_R_annul_6 : decode b_R_annul 6 = .ok (.invokestatic 52, 3) := by decide +kernel
theorem d_R_annul_9 : decode b_R_annul 9 = .ok (.aload_n 0, 1) := by decide +kernel
theorem d_R_annul_10 : decode b_R_annul 10 = .ok (.getfield 20, 3) := by decide +kernel
theorem d_R_annul_13 : decode b_R_annul 13 = .ok (.invokevirtual 56, 3) := by decide +kernel
theorem d_R_annul_16 : decode b_R_annul 16 = .ok (.invokestatic 62, 3) := by decide +kernel
theorem d_R_annul_19 : decode b_R_annul 19 = .ok (.aload_n 0, 1) := by decide +kernel
theorem d_R_annul_20 : decode b_R_annul 20 = .ok (.getfield 26, 3) := by decide +kernel
theorem d_R_annul_23 : decode b_R_annul 23 = .ok (.iload_n 1, 1) := by decide +kernel
theorem d_R_annul_24 : decode b_R_annul 24 = .ok (.invokevirtual 85, 3) := by decide +kernel
theorem d_R_annul_27 : decode b_R_annul 27 = .ok (.ifCond .eq (24), 3) := by decide +kernel
theorem d_R_annul_30 : decode b_R_annul 30 = .ok (.aload_n 0, 1) := by decide +kernel
theorem d_R_annul_31 : decode b_R_annul 31 = .ok (.getfield 26, 3) := by decide +kernel
theorem d_R_annul_34 : decode b_R_annul 34 = .ok (.iload_n 1, 1) := by decide +kernel
theorem d_R_annul_35 : decode b_R_annul 35 = .ok (.invokevirtual 88, 3) := by decide +kernel
theorem d_R_annul_38 : decode b_R_annul 38 = .ok (.ifCond .ne (13), 3) := by decide +kernel
theorem d_R_annul_41 : decode b_R_annul 41 = .ok (.aload_n 0, 1) := by decide +kernel
theorem d_R_annul_42 : decode b_R_annul 42 = .ok (.getfield 26, 3) := by decide +kernel
theorem d_R_annul_45 : decode b_R_annul 45 = .ok (.invokevirtual 71, 3) := by decide +kernel
theorem d_R_annul_48 : decode b_R_annul 48 = .ok (.ifCond .eq (5), 3) := by decide +kernel
theorem d_R_annul_51 : decode b_R_annul 51 = .ok (.iconst 0, 1) := by decide +kernel
theorem d_R_annul_52 : decode b_R_annul 52 = .ok (.ireturn, 1) := by decide +kernel
theorem d_R_annul_53 : decode b_R_annul 53 = .ok (.aload_n 0, 1) := by decide +kernel
theorem d_R_annul_54 : decode b_R_annul 54 = .ok (.iload_n 1, 1) := by decide +kernel
theorem d_R_annul_55 : decode b_R_annul 55 = .ok (.iload_n 2, 1) := by decide +kernel
theorem d_R_annul_56 : decode b_R_annul 56 = .ok (.ldc 91, 2) := by decide +kernel
theorem d_R_annul_58 : decode b_R_annul 58 = .ok (.invokevirtual 74, 3) := by decide +kernel
theorem d_R_annul_61 : decode b_R_annul 61 = .ok (.ireturn, 1) := by decide +kernel
theorem d_R_sync_0 : decode b_R_sync 0 = .ok (.aload_n 0, 1) := by decide +kernel
theorem d_R_sync_1 : decode b_R_sync 1 = .ok (.getfield 20, 3) := by decide +kernel
theorem d_R_sync_4 : decode b_R_sync 4 = .ok (.invokevirtual 56, 3) := by decide +kernel
theorem d_R_sync_7 : decode b_R_sync 7 = .ok (.invokestatic 62, 3) := by decide +kernel
theorem d_R_sync_10 : decode b_R_sync 10 = .ok (.aload_n 0, 1) := by decide +kernel
theorem d_R_sync_11 : decode b_R_sync 11 = .ok (.getfield 12, 3) := by decide +kernel
theorem d_R_sync_14 : decode b_R_sync 14 = .ok (.invokevirtual 92, 3) := by decide +kernel
theorem d_R_sync_17 : decode b_R_sync 17 = .ok (.aload_n 0, 1) := by decide +kernel
theorem d_R_sync_18 : decode b_R_sync 18 = .ok (.getfield 26, 3) := by decide +kernel
theorem d_R_sync_21 : decode b_R_sync 21 = .ok (.invokevirtual 95, 3) := by decide +kernel
theorem d_R_sync_24 : decode b_R_sync 24 = .ok (.if_icmp .ne (5), 3) := by decide +kernel
theorem d_R_sync_27 : decode b_R_sync 27 = .ok (.iconst 1, 1) := by decide +kernel
theorem d_R_sync_28 : decode b_R_sync 28 = .ok (.ireturn, 1) := by decide +kernel
theorem d_R_sync_29 : decode b_R_sync 29 = .ok (.aload_n 0, 1) := by decide +kernel
theorem d_R_sync_30 : decode b_R_sync 30 = .ok (.getfield 12, 3) := by decide +kernel
theorem d_R_sync_33 : decode b_R_sync 33 = .ok (.invokevirtual 98, 3) := by decide +kernel
theorem d_R_sync_36 : decode b_R_sync 36 = .ok (.istore_n 1, 1) := by decide +kernel
theorem d_R_sync_37 : decode b_R_sync 37 = .ok (.iload_n 1, 1) := by decide +kernel
theorem d_R_sync_38 : decode b_R_sync 38 = .ok (.ifCond .lt (18), 3) := by decide +kernel
theorem d_R_sync_41 : decode b_R_sync 41 = .ok (.aload_n 0, 1) := by decide +kernel
theorem d_R_sync_42 : decode b_R_sync 42 = .ok (.getfield 12, 3) := by decide +kernel
theorem d_R_sync_45 : decode b_R_sync 45 = .ok (.aload_n 0, 1) := by decide +kernel
theorem d_R_sync_46 : decode b_R_sync 46 = .ok (.getfield 26, 3) := by decide +kernel
theorem d_R_sync_49 : decode b_R_sync 49 = .ok (.iload_n 1, 1) := by decide +kernel
theorem d_R_sync_50 : decode b_R_sync 50 = .ok (.invokevirtual 101, 3) := by decide +kernel
theorem d_R_sync_53 : decode b_R_sync 53 = .ok (.goto (4), 3) := by decide +kernel
theorem d_R_sync_56 : decode b_R_sync 56 = .ok (.iload_n 1, 1) := by decide +kernel
theorem d_R_sync_57 : decode b_R_sync 57 = .ok (.ireturn, 1) := by decide +kernel
theorem d_R_dayTotal_0 : decode b_R_dayTotal 0 = .ok (.aload_n 0, 1) := by decide +kernel
theorem d_R_dayTotal_1 : decode b_R_dayTotal 1 = .ok (.getfield 20, 3) := by decide +kernel
theorem d_R_dayTotal_4 : decode b_R_dayTotal 4 = .ok (.invokevirtual 56, 3) := by decide +kernel
theorem d_R_dayTotal_7 : decode b_R_dayTotal 7 = .ok (.invokestatic 62, 3) := by decide +kernel
theorem d_R_dayTotal_10 : decode b_R_dayTotal 10 = .ok (.lconst 0, 1) := by decide +kernel
theorem d_R_dayTotal_11 : decode b_R_dayTotal 11 = .ok (.lstore_n 3, 1) := by decide +kernel
theorem d_R_dayTotal_12 : decode b_R_dayTotal 12 = .ok (.iconst 1, 1) := by decide +kernel
theorem d_R_dayTotal_13 : decode b_R_dayTotal 13 = .ok (.istore 5, 2) := by decide +kernel
theorem d_R_dayTotal_15 : decode b_R_dayTotal 15 = .ok (.iload 5, 2) := by decide +kernel
theorem d_R_dayTotal_17 : decode b_R_dayTotal 17 = .ok (.aload_n 0, 1) := by decide +kernel
theorem d_R_dayTotal_18 : decode b_R_dayTotal 18 = .ok (.getfield 26, 3) := by decide +kernel
theorem d_R_dayTotal_21 : decode b_R_dayTotal 21 = .ok (.invokevirtual 81, 3) := by decide +kernel
theorem d_R_dayTotal_24 : decode b_R_dayTotal 24 = .ok (.if_icmp .gt (76), 3) := by decide +kernel
theorem d_R_dayTotal_27 : decode b_R_dayTotal 27 = .ok (.aload_n 0, 1) := by decide +kernel
theorem d_R_dayTotal_28 : decode b_R_dayTotal 28 = .ok (.getfield 26, 3) := by decide +kernel
theorem d_R_dayTotal_31 : decode b_R_dayTotal 31 = .ok (.iload 5, 2) := by decide +kernel
theorem d_R_dayTotal_33 : decode b_R_dayTotal 33 = .ok (.invokevirtual 118, 3) := by decide +kernel
theorem d_R_dayTotal_36 : decode b_R_dayTotal 36 = .ok (.iload_n 2, 1) := by decide +kernel
theorem d_R_dayTotal_37 : decode b_R_dayTotal 37 = .ok (.if_icmp .ne (24), 3) := by decide +kernel
theorem d_R_dayTotal_40 : decode b_R_dayTotal 40 = .ok (.aload_n 0, 1) := by decide +kernel
theorem d_R_dayTotal_41 : decode b_R_dayTotal 41 = .ok (.getfield 26, 3) := by decide +kernel
theorem d_R_dayTotal_44 : decode b_R_dayTotal 44 = .ok (.iload 5, 2) := by decide +kernel
theorem d_R_dayTotal_46 : decode b_R_dayTotal 46 = .ok (.invokevirtual 121, 3) := by decide +kernel
theorem d_R_dayTotal_49 : decode b_R_dayTotal 49 = .ok (.sipush 1440, 3) := by decide +kernel
theorem d_R_dayTotal_52 : decode b_R_dayTotal 52 = .ok (.idiv, 1) := by decide +kernel
theorem d_R_dayTotal_53 : decode b_R_dayTotal 53 = .ok (.iload_n 1, 1) := by decide +kernel
theorem d_R_dayTotal_54 : decode b_R_dayTotal 54 = .ok (.if_icmp .ne (7), 3) := by decide +kernel
theorem d_R_dayTotal_57 : decode b_R_dayTotal 57 = .ok (.iconst 1, 1) := by decide +kernel
theorem d_R_dayTotal_58 : decode b_R_dayTotal 58 = .ok (.goto (4), 3) := by decide +kernel
theorem d_R_dayTotal_61 : decode b_R_dayTotal 61 = .ok (.iconst 0, 1) := by decide +kernel
theorem d_R_dayTotal_62 : decode b_R_dayTotal 62 = .ok (.istore 6, 2) := by decide +kernel
theorem d_R_dayTotal_64 : decode b_R_dayTotal 64 = .ok (.iload 6, 2) := by decide +kernel
theorem d_R_dayTotal_66 : decode b_R_dayTotal 66 = .ok (.ifCond .eq (28), 3) := by decide +kernel
theorem d_R_dayTotal_69 : decode b_R_dayTotal 69 = .ok (.aload_n 0, 1) := by decide +kernel
theorem d_R_dayTotal_70 : decode b_R_dayTotal 70 = .ok (.getfield 26, 3) := by decide +kernel
theorem d_R_dayTotal_73 : decode b_R_dayTotal 73 = .ok (.iload 5, 2) := by decide +kernel
theorem d_R_dayTotal_75 : decode b_R_dayTotal 75 = .ok (.invokevirtual 88, 3) := by decide +kernel
theorem d_R_dayTotal_78 : decode b_R_dayTotal 78 = .ok (.ifCond .ne (16), 3) := by decide +kernel
theorem d_R_dayTotal_81 : decode b_R_dayTotal 81 = .ok (.lload_n 3, 1) := by decide +kernel
theorem d_R_dayTotal_82 : decode b_R_dayTotal 82 = .ok (.aload_n 0, 1) := by decide +kernel
theorem d_R_dayTotal_83 : decode b_R_dayTotal 83 = .ok (.getfield 26, 3) := by decide +kernel
theorem d_R_dayTotal_86 : decode b_R_dayTotal 86 = .ok (.iload 5, 2) := by decide +kernel
theorem d_R_dayTotal_88 : decode b_R_dayTotal 88 = .ok (.invokevirtual 130, 3) := by decide +kernel
theorem d_R_dayTotal_91 : decode b_R_dayTotal 91 = .ok (.i2l, 1) := by decide +kernel
theorem d_R_dayTotal_92 : decode b_R_dayTotal 92 = .ok (.ladd, 1) := by decide +kernel
theorem d_R_dayTotal_93 : decode b_R_dayTotal 93 = .ok (.lstore_n 3, 1) := by decide +kernel
theorem d_R_dayTotal_94 : decode b_R_dayTotal 94 = .ok (.iinc 5 1, 3) := by decide +kernel
theorem d_R_dayTotal_97 : decode b_R_dayTotal 97 = .ok (.goto (-82), 3) := by decide +kernel
theorem d_R_dayTotal_100 : decode b_R_dayTotal 100 = .ok (.lload_n 3, 1) := by decide +kernel
theorem d_R_dayTotal_101 : decode b_R_dayTotal 101 = .ok (.lreturn, 1) := by decide +kernel
theorem d_R_rangeTotal_0 : decode b_R_rangeTotal 0 = .ok (.aload_n 0, 1) := by decide +kernel
theorem d_R_rangeTotal_1 : decode b_R_rangeTotal 1 = .ok (.getfield 20, 3) := by decide +kernel
theorem d_R_rangeTotal_4 : decode b_R_rangeTotal 4 = .ok (.invokevirtual 56, 3) := by decide +kernel
theorem d_R_rangeTotal_7 : decode b_R_rangeTotal 7 = .ok (.invokestatic 62, 3) := by decide +kernel
theorem d_R_rangeTotal_10 : decode b_R_rangeTotal 10 = .ok (.iload_n 2, 1) := by decide +kernel
theorem d_R_rangeTotal_11 : decode b_R_rangeTotal 11 = .ok (.aload_n 0, 1) := by decide +kernel
theorem d_R_rangeTotal_12 : decode b_R_rangeTotal 12 = .ok (.getfield 26, 3) := by decide +kernel
theorem d_R_rangeTotal_15 : decode b_R_rangeTotal 15 = .ok (.invokevirtual 81, 3) := by decide +kernel
theorem d_R_rangeTotal_18 : decode b_R_rangeTotal 18 = .ok (.invokestatic 133, 3) := by decide +kernel
theorem d_R_rangeTotal_21 : decode b_R_rangeTotal 21 = .ok (.istore_n 3, 1) := by decide +kernel
theorem d_R_rangeTotal_22 : decode b_R_rangeTotal 22 = .ok (.lconst 0, 1) := by decide +kernel
theorem d_R_rangeTotal_23 : decode b_R_rangeTotal 23 = .ok (.lstore 4, 2) := by decide +kernel
theorem d_R_rangeTotal_25 : decode b_R_rangeTotal 25 = .ok (.iload_n 1, 1) := by decide +kernel
theorem d_R_rangeTotal_26 : decode b_R_rangeTotal 26 = .ok (.iconst 1, 1) := by decide +kernel
theorem d_R_rangeTotal_27 : decode b_R_rangeTotal 27 = .ok (.invokestatic 139, 3) := by decide +kernel
theorem d_R_rangeTotal_30 : decode b_R_rangeTotal 30 = .ok (.istore 6, 2) := by decide +kernel
theorem d_R_rangeTotal_32 : decode b_R_rangeTotal 32 = .ok (.iload 6, 2) := by decide +kernel
theorem d_R_rangeTotal_34 : decode b_R_rangeTotal 34 = .ok (.iload_n 3, 1) := by decide +kernel
theorem d_R_rangeTotal_35 : decode b_R_rangeTotal 35 = .ok (.if_icmp .gt (36), 3) := by decide +kernel
theorem d_R_rangeTotal_38 : decode b_R_rangeTotal 38 = .ok (.aload_n 0, 1) := by decide +kernel
theorem d_R_rangeTotal_39 : decode b_R_rangeTotal 39 = .ok (.getfield 26, 3) := by decide +kernel
theorem d_R_rangeTotal_42 : decode b_R_rangeTotal 42 = .ok (.iload 6, 2) := by decide +kernel
theorem d_R_rangeTotal_44 : decode b_R_rangeTotal 44 = .ok (.invokevirtual 88, 3) := by decide +kernel
theorem d_R_rangeTotal_47 : decode b_R_rangeTotal 47 = .ok (.ifCond .ne (18), 3) := by decide +kernel
theorem d_R_rangeTotal_50 : decode b_R_rangeTotal 50 = .ok (.lload 4, 2) := by decide +kernel
theorem d_R_rangeTotal_52 : decode b_R_rangeTotal 52 = .ok (.aload_n 0, 1) := by decide +kernel
theorem d_R_rangeTotal_53 : decode b_R_rangeTotal 53 = .ok (.getfield 26, 3) := by decide +kernel
theorem d_R_rangeTotal_56 : decode b_R_rangeTotal 56 = .ok (.iload 6, 2) := by decide +kernel
theorem d_R_rangeTotal_58 : decode b_R_rangeTotal 58 = .ok (.invokevirtual 130, 3) := by decide +kernel
theorem d_R_rangeTotal_61 : decode b_R_rangeTotal 61 = .ok (.i2l, 1) := by decide +kernel
theorem d_R_rangeTotal_62 : decode b_R_rangeTotal 62 = .ok (.ladd, 1) := by decide +kernel
theorem d_R_rangeTotal_63 : decode b_R_rangeTotal 63 = .ok (.lstore 4, 2) := by decide +kernel
theorem d_R_rangeTotal_65 : decode b_R_rangeTotal 65 = .ok (.iinc 6 1, 3) := by decide +kernel
theorem d_R_rangeTotal_68 : decode b_R_rangeTotal 68 = .ok (.goto (-36), 3) := by decide +kernel
theorem d_R_rangeTotal_71 : decode b_R_rangeTotal 71 = .ok (.lload 4, 2) := by decide +kernel
theorem d_R_rangeTotal_73 : decode b_R_rangeTotal 73 = .ok (.lreturn, 1) := by decide +kernel
theorem d_R_find_0 : decode b_R_find 0 = .ok (.aload_n 0, 1) := by decide +kernel
theorem d_R_find_1 : decode b_R_find 1 = .ok (.getfield 20, 3) := by decide +kernel
theorem d_R_find_4 : decode b_R_find 4 = .ok (.invokevirtual 56, 3) := by decide +kernel
theorem d_R_find_7 : decode b_R_find 7 = .ok (.invokestatic 62, 3) := by decide +kernel
theorem d_R_find_10 : decode b_R_find 10 = .ok (.iload_n 2, 1) := by decide +kernel
theorem d_R_find_11 : decode b_R_find 11 = .ok (.iconst 1, 1) := by decide +kernel
theorem d_R_find_12 : decode b_R_find 12 = .ok (.invokestatic 139, 3) := by decide +kernel
theorem d_R_find_15 : decode b_R_find 15 = .ok (.istore_n 3, 1) := by decide +kernel
theorem d_R_find_16 : decode b_R_find 16 = .ok (.iload_n 3, 1) := by decide +kernel
theorem d_R_find_17 : decode b_R_find 17 = .ok (.aload_n 0, 1) := by decide +kernel
theorem d_R_find_18 : decode b_R_find 18 = .ok (.getfield 26, 3) := by decide +kernel
theorem d_R_find_21 : decode b_R_find 21 = .ok (.invokevirtual 81, 3) := by decide +kernel
theorem d_R_find_24 : decode b_R_find 24 = .ok (.if_icmp .gt (23), 3) := by decide +kernel
theorem d_R_find_27 : decode b_R_find 27 = .ok (.aload_n 0, 1) := by decide +kernel
theorem d_R_find_28 : decode b_R_find 28 = .ok (.getfield 26, 3) := by decide +kernel
theorem d_R_find_31 : decode b_R_find 31 = .ok (.iload_n 3, 1) := by decide +kernel
theorem d_R_find_32 : decode b_R_find 32 = .ok (.invokevirtual 108, 3) := by decide +kernel
theorem d_R_find_35 : decode b_R_find 35 = .ok (.iload_n 1, 1) := by decide +kernel
theorem d_R_find_36 : decode b_R_find 36 = .ok (.if_icmp .ne (5), 3) := by decide +kernel
theorem d_R_find_39 : decode b_R_find 39 = .ok (.iload_n 3, 1) := by decide +kernel
theorem d_R_find_40 : decode b_R_find 40 = .ok (.ireturn, 1) := by decide +kernel
theorem d_R_find_41 : decode b_R_find 41 = .ok (.iinc 3 1, 3) := by decide +kernel
theorem d_R_find_44 : decode b_R_find 44 = .ok (.goto (-28), 3) := by decide +kernel
theorem d_R_find_47 : decode b_R_find 47 = .ok (.iconst 0, 1) := by decide +kernel
theorem d_R_find_48 : decode b_R_find 48 = .ok (.ireturn, 1) := by decide +kernel
theorem d_R_audit_0 : decode b_R_audit 0 = .ok (.aload_n 0, 1) := by decide +kernel
theorem d_R_audit_1 : decode b_R_audit 1 = .ok (.getfield 20, 3) := by decide +kernel
theorem d_R_audit_4 : decode b_R_audit 4 = .ok (.invokevirtual 56, 3) := by decide +kernel
theorem d_R_audit_7 : decode b_R_audit 7 = .ok (.invokestatic 62, 3) := by decide +kernel
theorem d_R_audit_10 : decode b_R_audit 10 = .ok (.iload_n 2, 1) := by decide +kernel
theorem d_R_audit_11 : decode b_R_audit 11 = .ok (.aload_n 0, 1) := by decide +kernel
theorem d_R_audit_12 : decode b_R_audit 12 = .ok (.getfield 26, 3) := by decide +kernel
theorem d_R_audit_15 : decode b_R_audit 15 = .ok (.invokevirtual 81, 3) := by decide +kernel
theorem d_R_audit_18 : decode b_R_audit 18 = .ok (.invokestatic 133, 3) := by decide +kernel
theorem d_R_audit_21 : decode b_R_audit 21 = .ok (.istore_n 3, 1) := by decide +kernel
theorem d_R_audit_22 : decode b_R_audit 22 = .ok (.iload_n 1, 1) := by decide +kernel
theorem d_R_audit_23 : decode b_R_audit 23 = .ok (.iconst 1, 1) := by decide +kernel
theorem d_R_audit_24 : decode b_R_audit 24 = .ok (.invokestatic 139, 3) := by decide +kernel
theorem d_R_audit_27 : decode b_R_audit 27 = .ok (.istore 4, 2) := by decide +kernel
theorem d_R_audit_29 : decode b_R_audit 29 = .ok (.iload 4, 2) := by decide +kernel
theorem d_R_audit_31 : decode b_R_audit 31 = .ok (.iload_n 3, 1) := by decide +kernel
theorem d_R_audit_32 : decode b_R_audit 32 = .ok (.if_icmp .gt (31), 3) := by decide +kernel
theorem d_R_audit_35 : decode b_R_audit 35 = .ok (.aload_n 0, 1) := by decide +kernel
theorem d_R_audit_36 : decode b_R_audit 36 = .ok (.getfield 12, 3) := by decide +kernel
theorem d_R_audit_39 : decode b_R_audit 39 = .ok (.aload_n 0, 1) := by decide +kernel
theorem d_R_audit_40 : decode b_R_audit 40 = .ok (.getfield 26, 3) := by decide +kernel
theorem d_R_audit_43 : decode b_R_audit 43 = .ok (.iload 4, 2) := by decide +kernel
theorem d_R_audit_45 : decode b_R_audit 45 = .ok (.invokevirtual 142, 3) := by decide +kernel
theorem d_R_audit_48 : decode b_R_audit 48 = .ok (.invokevirtual 145, 3) := by decide +kernel
theorem d_R_audit_51 : decode b_R_audit 51 = .ok (.ifCond .eq (6), 3) := by decide +kernel
theorem d_R_audit_54 : decode b_R_audit 54 = .ok (.iload 4, 2) := by decide +kernel
theorem d_R_audit_56 : decode b_R_audit 56 = .ok (.ireturn, 1) := by decide +kernel
theorem d_R_audit_57 : decode b_R_audit 57 = .ok (.iinc 4 1, 3) := by decide +kernel
theorem d_R_audit_60 : decode b_R_audit 60 = .ok (.goto (-31), 3) := by decide +kernel
theorem d_R_audit_63 : decode b_R_audit 63 = .ok (.iconst 0, 1) := by decide +kernel
theorem d_R_audit_64 : decode b_R_audit 64 = .ok (.ireturn, 1) := by decide +kernel
theorem d_R_exportByte_0 : decode b_R_exportByte 0 = .ok (.aload_n 0, 1) := by decide +kernel
theorem d_R_exportByte_1 : decode b_R_exportByte 1 = .ok (.getfield 20, 3) := by decide +kernel
theorem d_R_exportByte_4 : decode b_R_exportByte 4 = .ok (.invokevirtual 56, 3) := by decide +kernel
theorem d_R_exportByte_7 : decode b_R_exportByte 7 = .ok (.invokestatic 62, 3) := by decide +kernel
theorem d_R_exportByte_10 : decode b_R_exportByte 10 = .ok (.iload_n 3, 1) := by decide +kernel
theorem d_R_exportByte_11 : decode b_R_exportByte 11 = .ok (.ifCond .ge (5), 3) := by decide +kernel
theorem d_R_exportByte_14 : decode b_R_exportByte 14 = .ok (.iconst (-1), 1) := by decide +kernel
theorem d_R_exportByte_15 : decode b_R_exportByte 15 = .ok (.ireturn, 1) := by decide +kernel
theorem d_R_exportByte_16 : decode b_R_exportByte 16 = .ok (.iload_n 2, 1) := by decide +kernel
theorem d_R_exportByte_17 : decode b_R_exportByte 17 = .ok (.aload_n 0, 1) := by decide +kernel
theorem d_R_exportByte_18 : decode b_R_exportByte 18 = .ok (.getfield 26, 3) := by decide +kernel
theorem d_R_exportByte_21 : decode b_R_exportByte 21 = .ok (.invokevirtual 81, 3) := by decide +kernel
theorem d_R_exportByte_24 : decode b_R_exportByte 24 = .ok (.invokestatic 133, 3) := by decide +kernel
theorem d_R_exportByte_27 : decode b_R_exportByte 27 = .ok (.istore 4, 2) := by decide +kernel
theorem d_R_exportByte_29 : decode b_R_exportByte 29 = .ok (.iload_n 3, 1) := by decide +kernel
theorem d_R_exportByte_30 : decode b_R_exportByte 30 = .ok (.istore 5, 2) := by decide +kernel
theorem d_R_exportByte_32 : decode b_R_exportByte 32 = .ok (.iload_n 1, 1) := by decide +kernel
theorem d_R_exportByte_33 : decode b_R_exportByte 33 = .ok (.iconst 1, 1) := by decide +kernel
theorem d_R_exportByte_34 : decode b_R_exportByte 34 = .ok (.invokestatic 139, 3) := by decide +kernel
theorem d_R_exportByte_37 : decode b_R_exportByte 37 = .ok (.istore 6, 2) := by decide +kernel
theorem d_R_exportByte_39 : decode b_R_exportByte 39 = .ok (.iload 6, 2) := by decide +kernel
theorem d_R_exportByte_41 : decode b_R_exportByte 41 = .ok (.iload 4, 2) := by decide +kernel
theorem d_R_exportByte_43 : decode b_R_exportByte 43 = .ok (.if_icmp .gt (56), 3) := by decide +kernel
theorem d_R_exportByte_46 : decode b_R_exportByte 46 = .ok (.aload_n 0, 1) := by decide +kernel
theorem d_R_exportByte_47 : decode b_R_exportByte 47 = .ok (.getfield 33, 3) := by decide +kernel
theorem d_R_exportByte_50 : decode b_R_exportByte 50 = .ok (.aload_n 0, 1) := by decide +kernel
theorem d_R_exportByte_51 : decode b_R_exportByte 51 = .ok (.getfield 26, 3) := by decide +kernel
theorem d_R_exportByte_54 : decode b_R_exportByte 54 = .ok (.iload 6, 2) := by decide +kernel
theorem d_R_exportByte_56 : decode b_R_exportByte 56 = .ok (.invokevirtual 148, 3) := by decide +kernel
theorem d_R_exportByte_59 : decode b_R_exportByte 59 = .ok (.iload 5, 2) := by decide +kernel
theorem d_R_exportByte_61 : decode b_R_exportByte 61 = .ok (.aload_n 0, 1) := by decide +kernel
theorem d_R_exportByte_62 : decode b_R_exportByte 62 = .ok (.getfield 33, 3) := by decide +kernel
theorem d_R_exportByte_65 : decode b_R_exportByte 65 = .ok (.invokevirtual 152, 3) := by decide +kernel
theorem d_R_exportByte_68 : decode b_R_exportByte 68 = .ok (.if_icmp .ge (13), 3) := by decide +kernel
theorem d_R_exportByte_71 : decode b_R_exportByte 71 = .ok (.aload_n 0, 1) := by decide +kernel
theorem d_R_exportByte_72 : decode b_R_exportByte 72 = .ok (.getfield 33, 3) := by decide +kernel
theorem d_R_exportByte_75 : decode b_R_exportByte 75 = .ok (.iload 5, 2) := by decide +kernel
theorem d_R_exportByte_77 : decode b_R_exportByte 77 = .ok (.invokevirtual 155, 3) := by decide +kernel
theorem d_R_exportByte_80 : decode b_R_exportByte 80 = .ok (.ireturn, 1) := by decide +kernel
theorem d_R_exportByte_81 : decode b_R_exportByte 81 = .ok (.iload 5, 2) := by decide +kernel
theorem d_R_exportByte_83 : decode b_R_exportByte 83 = .ok (.aload_n 0, 1) := by decide +kernel
theorem d_R_exportByte_84 : decode b_R_exportByte 84 = .ok (.getfield 33, 3) := by decide +kernel
theorem d_R_exportByte_87 : decode b_R_exportByte 87 = .ok (.invokevirtual 152, 3) := by decide +kernel
theorem d_R_exportByte_90 : decode b_R_exportByte 90 = .ok (.isub, 1) := by decide +kernel
theorem d_R_exportByte_91 : decode b_R_exportByte 91 = .ok (.istore 5, 2) := by decide +kernel
theorem d_R_exportByte_93 : decode b_R_exportByte 93 = .ok (.iinc 6 1, 3) := by decide +kernel
theorem d_R_exportByte_96 : decode b_R_exportByte 96 = .ok (.goto (-57), 3) := by decide +kernel
theorem d_R_exportByte_99 : decode b_R_exportByte 99 = .ok (.iconst (-1), 1) := by decide +kernel
theorem d_R_exportByte_100 : decode b_R_exportByte 100 = .ok (.ireturn, 1) := by decide +kernel
theorem d_R_setProduct_0 : decode b_R_setProduct 0 = .ok (.iload_n 1, 1) := by decide +kernel
theorem d_R_setProduct_1 : decode b_R_setProduct 1 = .ok (.invokestatic 66, 3) := by decide +kernel
theorem d_R_setProduct_4 : decode b_R_setProduct 4 = .ok (.invokestatic 52, 3) := by decide +kernel
theorem d_R_setProduct_7 : decode b_R_setProduct 7 = .ok (.aload_n 0, 1) := by decide +kernel
theorem d_R_setProduct_8 : decode b_R_setProduct 8 = .ok (.getfield 37, 3) := by decide +kernel
theorem d_R_setProduct_11 : decode b_R_setProduct 11 = .ok (.iload_n 1, 1) := by decide +kernel
theorem d_R_setProduct_12 : decode b_R_setProduct 12 = .ok (.iload_n 2, 1) := by decide +kernel
theorem d_R_setProduct_13 : decode b_R_setProduct 13 = .ok (.bastore, 1) := by decide +kernel
theorem d_R_setProduct_14 : decode b_R_setProduct 14 = .ok (.return_, 1) := by decide +kernel
theorem d_R_cutAfter_0 : decode b_R_cutAfter 0 = .ok (.iload_n 1, 1) := by decide +kernel
theorem d_R_cutAfter_1 : decode b_R_cutAfter 1 = .ok (.iconst 0, 1) := by decide +kernel
theorem d_R_cutAfter_2 : decode b_R_cutAfter 2 = .ok (.sipush 300, 3) := by decide +kernel
theorem d_R_cutAfter_5 : decode b_R_cutAfter 5 = .ok (.invokestatic 48, 3) := by decide +kernel
theorem d_R_cutAfter_8 : decode b_R_cutAfter 8 = .ok (.invokestatic 52, 3) := by decide +kernel
theorem d_R_cutAfter_11 : decode b_R_cutAfter 11 = .ok (.aload_n 0, 1) := by decide +kernel
theorem d_R_cutAfter_12 : decode b_R_cutAfter 12 = .ok (.getfield 20, 3) := by decide +kernel
theorem d_R_cutAfter_15 : decode b_R_cutAfter 15 = .ok (.iload_n 1, 1) := by decide +kernel
theorem d_R_cutAfter_16 : decode b_R_cutAfter 16 = .ok (.invokevirtual 158, 3) := by decide +kernel
theorem d_R_cutAfter_19 : decode b_R_cutAfter 19 = .ok (.return_, 1) := by decide +kernel
theorem d_R_wearOf_0 : decode b_R_wearOf 0 = .ok (.iload_n 1, 1) := by decide +kernel
theorem d_R_wearOf_1 : decode b_R_wearOf 1 = .ok (.iconst 0, 1) := by decide +kernel
theorem d_R_wearOf_2 : decode b_R_wearOf 2 = .ok (.bipush 7, 2) := by decide +kernel
theorem d_R_wearOf_4 : decode b_R_wearOf 4 = .ok (.invokestatic 48, 3) := by decide +kernel
theorem d_R_wearOf_7 : decode b_R_wearOf 7 = .ok (.invokestatic 52, 3) := by decide +kernel
theorem d_R_wearOf_10 : decode b_R_wearOf 10 = .ok (.aload_n 0, 1) := by decide +kernel
theorem d_R_wearOf_11 : decode b_R_wearOf 11 = .ok (.getfield 20, 3) := by decide +kernel
theorem d_R_wearOf_14 : decode b_R_wearOf 14 = .ok (.iload_n 1, 1) := by decide +kernel
theorem d_R_wearOf_15 : decode b_R_wearOf 15 = .ok (.invokevirtual 172, 3) := by decide +kernel
theorem d_R_wearOf_18 : decode b_R_wearOf 18 = .ok (.ireturn, 1) := by decide +kernel
theorem d_R_failBlock_0 : decode b_R_failBlock 0 = .ok (.iload_n 1, 1) := by decide +kernel
theorem d_R_failBlock_1 : decode b_R_failBlock 1 = .ok (.iconst 0, 1) := by decide +kernel
theorem d_R_failBlock_2 : decode b_R_failBlock 2 = .ok (.bipush 7, 2) := by decide +kernel
theorem d_R_failBlock_4 : decode b_R_failBlock 4 = .ok (.invokestatic 48, 3) := by decide +kernel
theorem d_R_failBlock_7 : decode b_R_failBlock 7 = .ok (.invokestatic 52, 3) := by decide +kernel
theorem d_R_failBlock_10 : decode b_R_failBlock 10 = .ok (.aload_n 0, 1) := by decide +kernel
theorem d_R_failBlock_11 : decode b_R_failBlock 11 = .ok (.getfield 20, 3) := by decide +kernel
theorem d_R_failBlock_14 : decode b_R_failBlock 14 = .ok (.iload_n 1, 1) := by decide +kernel
theorem d_R_failBlock_15 : decode b_R_failBlock 15 = .ok (.invokevirtual 175, 3) := by decide +kernel
theorem d_R_failBlock_18 : decode b_R_failBlock 18 = .ok (.return_, 1) := by decide +kernel
theorem d_R_poke_0 : decode b_R_poke 0 = .ok (.iload_n 1, 1) := by decide +kernel
theorem d_R_poke_1 : decode b_R_poke 1 = .ok (.iload_n 2, 1) := by decide +kernel
theorem d_R_poke_2 : decode b_R_poke 2 = .ok (.invokestatic 178, 3) := by decide +kernel
theorem d_R_poke_5 : decode b_R_poke 5 = .ok (.invokestatic 52, 3) := by decide +kernel
theorem d_R_poke_8 : decode b_R_poke 8 = .ok (.aload_n 0, 1) := by decide +kernel
theorem d_R_poke_9 : decode b_R_poke 9 = .ok (.getfield 20, 3) := by decide +kernel
theorem d_R_poke_12 : decode b_R_poke 12 = .ok (.iload_n 1, 1) := by decide +kernel
theorem d_R_poke_13 : decode b_R_poke 13 = .ok (.iload_n 2, 1) := by decide +kernel
theorem d_R_poke_14 : decode b_R_poke 14 = .ok (.iload_n 3, 1) := by decide +kernel
theorem d_R_poke_15 : decode b_R_poke 15 = .ok (.invokevirtual 182, 3) := by decide +kernel
theorem d_R_poke_18 : decode b_R_poke 18 = .ok (.return_, 1) := by decide +kernel
theorem d_R_word_0 : decode b_R_word 0 = .ok (.iload_n 1, 1) := by decide +kernel
theorem d_R_word_1 : decode b_R_word 1 = .ok (.iload_n 2, 1) := by decide +kernel
theorem d_R_word_2 : decode b_R_word 2 = .ok (.invokestatic 178, 3) := by decide +kernel
theorem d_R_word_5 : decode b_R_word 5 = .ok (.invokestatic 105, 3) := by decide +kernel
theorem d_R_word_8 : decode b_R_word 8 = .ok (.aload_n 0, 1) := by decide +kernel
theorem d_R_word_9 : decode b_R_word 9 = .ok (.getfield 20, 3) := by decide +kernel
theorem d_R_word_12 : decode b_R_word 12 = .ok (.iload_n 1, 1) := by decide +kernel
theorem d_R_word_13 : decode b_R_word 13 = .ok (.iload_n 2, 1) := by decide +kernel
theorem d_R_word_14 : decode b_R_word 14 = .ok (.invokevirtual 186, 3) := by decide +kernel
theorem d_R_word_17 : decode b_R_word 17 = .ok (.ireturn, 1) := by decide +kernel
theorem d_R_state_0 : decode b_R_state 0 = .ok (.aload_n 0, 1) := by decide +kernel
theorem d_R_state_1 : decode b_R_state 1 = .ok (.getfield 20, 3) := by decide +kernel
theorem d_R_state_4 : decode b_R_state 4 = .ok (.invokevirtual 56, 3) := by decide +kernel
theorem d_R_state_7 : decode b_R_state 7 = .ok (.istore_n 2, 1) := by decide +kernel
theorem d_R_state_8 : decode b_R_state 8 = .ok (.iload_n 1, 1) := by decide +kernel
theorem d_R_state_9 : decode b_R_state 9 = .ok (.tableswitch 178 0 8 #[51, 67, 83, 99, 115, 128, 144, 160, 168], 51) := by decide +kernel
theorem d_R_state_60 : decode b_R_state 60 = .ok (.iload_n 2, 1) := by decide +kernel
theorem d_R_state_61 : decode b_R_state 61 = .ok (.ifCond .eq (13), 3) := by decide +kernel
theorem d_R_state_64 : decode b_R_state 64 = .ok (.aload_n 0, 1) := by decide +kernel
theorem d_R_state_65 : decode b_R_state 65 = .ok (.getfield 26, 3) := by decide +kernel
theorem d_R_state_68 : decode b_R_state 68 = .ok (.invokevirtual 95, 3) := by decide +kernel
theorem d_R_state_71 : decode b_R_state 71 = .ok (.goto (4), 3) := by decide +kernel
theorem d_R_state_74 : decode b_R_state 74 = .ok (.iconst 0, 1) := by decide +kernel
theorem d_R_state_75 : decode b_R_state 75 = .ok (.ireturn, 1) := by decide +kernel
theorem d_R_state_76 : decode b_R_state 76 = .ok (.iload_n 2, 1) := by decide +kernel
theorem d_R_state_77 : decode b_R_state 77 = .ok (.ifCond .eq (13), 3) := by decide +kernel
theorem d_R_state_80 : decode b_R_state 80 = .ok (.aload_n 0, 1) := by decide +kernel
theorem d_R_state_81 : decode b_R_state 81 = .ok (.getfield 12, 3) := by decide +kernel
theorem d_R_state_84 : decode b_R_state 84 = .ok (.invokevirtual 92, 3) := by decide +kernel
theorem d_R_state_87 : decode b_R_state 87 = .ok (.goto (4), 3) := by decide +kernel
theorem d_R_state_90 : decode b_R_state 90 = .ok (.iconst 0, 1) := by decide +kernel
theorem d_R_state_91 : decode b_R_state 91 = .ok (.ireturn, 1) := by decide +kernel
theorem d_R_state_92 : decode b_R_state 92 = .ok (.iload_n 2, 1) := by decide +kernel
theorem d_R_state_93 : decode b_R_state 93 = .ok (.ifCond .eq (13), 3) := by decide +kernel
theorem d_R_state_96 : decode b_R_state 96 = .ok (.aload_n 0, 1) := by decide +kernel
theorem d_R_state_97 : decode b_R_state 97 = .ok (.getfield 26, 3) := by decide +kernel
theorem d_R_state_100 : decode b_R_state 100 = .ok (.invokevirtual 81, 3) := by decide +kernel
theorem d_R_state_103 : decode b_R_state 103 = .ok (.goto (4), 3) := by decide +kernel
theorem d_R_state_106 : decode b_R_state 106 = .ok (.iconst 0, 1) := by decide +kernel
theorem d_R_state_107 : decode b_R_state 107 = .ok (.ireturn, 1) := by decide +kernel
theorem d_R_state_108 : decode b_R_state 108 = .ok (.iload_n 2, 1) := by decide +kernel
theorem d_R_state_109 : decode b_R_state 109 = .ok (.ifCond .eq (13), 3) := by decide +kernel
theorem d_R_state_112 : decode b_R_state 112 = .ok (.aload_n 0, 1) := by decide +kernel
theorem d_R_state_113 : decode b_R_state 113 = .ok (.getfield 12, 3) := by decide +kernel
theorem d_R_state_116 : decode b_R_state 116 = .ok (.invokevirtual 189, 3) := by decide +kernel
theorem d_R_state_119 : decode b_R_state 119 = .ok (.goto (4), 3) := by decide +kernel
theorem d_R_state_122 : decode b_R_state 122 = .ok (.iconst 0, 1) := by decide +kernel
theorem d_R_state_123 : decode b_R_state 123 = .ok (.ireturn, 1) := by decide +kernel
theorem d_R_state_124 : decode b_R_state 124 = .ok (.iload_n 2, 1) := by decide +kernel
theorem d_R_state_125 : decode b_R_state 125 = .ok (.ifCond .eq (10), 3) := by decide +kernel
theorem d_R_state_128 : decode b_R_state 128 = .ok (.aload_n 0, 1) := by decide +kernel
theorem d_R_state_129 : decode b_R_state 129 = .ok (.getfield 41, 3) := by decide +kernel
theorem d_R_state_132 : decode b_R_state 132 = .ok (.goto (4), 3) := by decide +kernel
theorem d_R_state_135 : decode b_R_state 135 = .ok (.iconst 0, 1) := by decide +kernel
theorem d_R_state_136 : decode b_R_state 136 = .ok (.ireturn, 1) := by decide +kernel
theorem d_R_state_137 : decode b_R_state 137 = .ok (.iload_n 2, 1) := by decide +kernel
theorem d_R_state_138 : decode b_R_state 138 = .ok (.ifCond .eq (13), 3) := by decide +kernel
theorem d_R_state_141 : decode b_R_state 141 = .ok (.aload_n 0, 1) := by decide +kernel
theorem d_R_state_142 : decode b_R_state 142 = .ok (.getfield 12, 3) := by decide +kernel
theorem d_R_state_145 : decode b_R_state 145 = .ok (.invokevirtual 192, 3) := by decide +kernel
theorem d_R_state_148 : decode b_R_state 148 = .ok (.goto (4), 3) := by decide +kernel
theorem d_R_state_151 : decode b_R_state 151 = .ok (.iconst 0, 1) := by decide +kernel
theorem d_R_state_152 : decode b_R_state 152 = .ok (.ireturn, 1) := by decide +kernel
theorem d_R_state_153 : decode b_R_state 153 = .ok (.iload_n 2, 1) := by decide +kernel
theorem d_R_state_154 : decode b_R_state 154 = .ok (.ifCond .eq (13), 3) := by decide +kernel
theorem d_R_state_157 : decode b_R_state 157 = .ok (.aload_n 0, 1) := by decide +kernel
theorem d_R_state_158 : decode b_R_state 158 = .ok (.getfield 12, 3) := by decide +kernel
theorem d_R_state_161 : decode b_R_state 161 = .ok (.invokevirtual 195, 3) := by decide +kernel
theorem d_R_state_164 : decode b_R_state 164 = .ok (.goto (4), 3) := by decide +kernel
theorem d_R_state_167 : decode b_R_state 167 = .ok (.iconst (-1), 1) := by decide +kernel
theorem d_R_state_168 : decode b_R_state 168 = .ok (.ireturn, 1) := by decide +kernel
theorem d_R_state_169 : decode b_R_state 169 = .ok (.aload_n 0, 1) := by decide +kernel
theorem d_R_state_170 : decode b_R_state 170 = .ok (.getfield 20, 3) := by decide +kernel
theorem d_R_state_173 : decode b_R_state 173 = .ok (.invokevirtual 198, 3) := by decide +kernel
theorem d_R_state_176 : decode b_R_state 176 = .ok (.ireturn, 1) := by decide +kernel
theorem d_R_state_177 : decode b_R_state 177 = .ok (.iload_n 2, 1) := by decide +kernel
theorem d_R_state_178 : decode b_R_state 178 = .ok (.ifCond .eq (7), 3) := by decide +kernel
theorem d_R_state_181 : decode b_R_state 181 = .ok (.iconst 1, 1) := by decide +kernel
theorem d_R_state_182 : decode b_R_state 182 = .ok (.goto (4), 3) := by decide +kernel
theorem d_R_state_185 : decode b_R_state 185 = .ok (.iconst 0, 1) := by decide +kernel
theorem d_R_state_186 : decode b_R_state 186 = .ok (.ireturn, 1) := by decide +kernel
theorem d_R_state_187 : decode b_R_state 187 = .ok (.iconst (-1), 1) := by decide +kernel
theorem d_R_state_188 : decode b_R_state 188 = .ok (.ireturn, 1) := by decide +kernel
theorem d_R_ticket_0 : decode b_R_ticket 0 = .ok (.aload_n 0, 1) := by decide +kernel
theorem d_R_ticket_1 : decode b_R_ticket 1 = .ok (.getfield 20, 3) := by decide +kernel
theorem d_R_ticket_4 : decode b_R_ticket 4 = .ok (.invokevirtual 56, 3) := by decide +kernel
theorem d_R_ticket_7 : decode b_R_ticket 7 = .ok (.invokestatic 62, 3) := by decide +kernel
theorem d_R_ticket_10 : decode b_R_ticket 10 = .ok (.aload_n 0, 1) := by decide +kernel
theorem d_R_ticket_11 : decode b_R_ticket 11 = .ok (.getfield 26, 3) := by decide +kernel
theorem d_R_ticket_14 : decode b_R_ticket 14 = .ok (.iload_n 1, 1) := by decide +kernel
theorem d_R_ticket_15 : decode b_R_ticket 15 = .ok (.invokevirtual 85, 3) := by decide +kernel
theorem d_R_ticket_18 : decode b_R_ticket 18 = .ok (.ifCond .eq (17), 3) := by decide +kernel
theorem d_R_ticket_21 : decode b_R_ticket 21 = .ok (.iload_n 2, 1) := by decide +kernel
theorem d_R_ticket_22 : decode b_R_ticket 22 = .ok (.iconst 0, 1) := by decide +kernel
theorem d_R_ticket_23 : decode b_R_ticket 23 = .ok (.bipush 6, 2) := by decide +kernel
theorem d_R_ticket_25 : decode b_R_ticket 25 = .ok (.invokestatic 48, 3) := by decide +kernel
theorem d_R_ticket_28 : decode b_R_ticket 28 = .ok (.ifCond .eq (7), 3) := by decide +kernel
theorem d_R_ticket_31 : decode b_R_ticket 31 = .ok (.iconst 1, 1) := by decide +kernel
theorem d_R_ticket_32 : decode b_R_ticket 32 = .ok (.goto (4), 3) := by decide +kernel
theorem d_R_ticket_35 : decode b_R_ticket 35 = .ok (.iconst 0, 1) := by decide +kernel
theorem d_R_ticket_36 : decode b_R_ticket 36 = .ok (.invokestatic 105, 3) := by decide +kernel
theorem d_R_ticket_39 : decode b_R_ticket 39 = .ok (.iload_n 2, 1) := by decide +kernel
theorem d_R_ticket_40 : decode b_R_ticket 40 = .ok (.tableswitch 94 0 5 #[40, 49, 58, 67, 76, 85], 40) := by decide +kernel
theorem d_R_ticket_80 : decode b_R_ticket 80 = .ok (.aload_n 0, 1) := by decide +kernel
theorem d_R_ticket_81 : decode b_R_ticket 81 = .ok (.getfield 26, 3) := by decide +kernel
theorem d_R_ticket_84 : decode b_R_ticket 84 = .ok (.iload_n 1, 1) := by decide +kernel
theorem d_R_ticket_85 : decode b_R_ticket 85 = .ok (.invokevirtual 108, 3) := by decide +kernel
theorem d_R_ticket_88 : decode b_R_ticket 88 = .ok (.ireturn, 1) := by decide +kernel
theorem d_R_ticket_89 : decode b_R_ticket 89 = .ok (.aload_n 0, 1) := by decide +kernel
theorem d_R_ticket_90 : decode b_R_ticket 90 = .ok (.getfield 26, 3) := by decide +kernel
theorem d_R_ticket_93 : decode b_R_ticket 93 = .ok (.iload_n 1, 1) := by decide +kernel
theorem d_R_ticket_94 : decode b_R_ticket 94 = .ok (.invokevirtual 112, 3) := by decide +kernel
theorem d_R_ticket_97 : decode b_R_ticket 97 = .ok (.ireturn, 1) := by decide +kernel
theorem d_R_ticket_98 : decode b_R_ticket 98 = .ok (.aload_n 0, 1) := by decide +kernel
theorem d_R_ticket_99 : decode b_R_ticket 99 = .ok (.getfield 26, 3) := by decide +kernel
theorem d_R_ticket_102 : decode b_R_ticket 102 = .ok (.iload_n 1, 1) := by decide +kernel
theorem d_R_ticket_103 : decode b_R_ticket 103 = .ok (.invokevirtual 115, 3) := by decide +kernel
theorem d_R_ticket_106 : decode b_R_ticket 106 = .ok (.ireturn, 1) := by decide +kernel
theorem d_R_ticket_107 : decode b_R_ticket 107 = .ok (.aload_n 0, 1) := by decide +kernel
theorem d_R_ticket_108 : decode b_R_ticket 108 = .ok (.getfield 26, 3) := by decide +kernel
theorem d_R_ticket_111 : decode b_R_ticket 111 = .ok (.iload_n 1, 1) := by decide +kernel
theorem d_R_ticket_112 : decode b_R_ticket 112 = .ok (.invokevirtual 118, 3) := by decide +kernel
theorem d_R_ticket_115 : decode b_R_ticket 115 = .ok (.ireturn, 1) := by decide +kernel
theorem d_R_ticket_116 : decode b_R_ticket 116 = .ok (.aload_n 0, 1) := by decide +kernel
theorem d_R_ticket_117 : decode b_R_ticket 117 = .ok (.getfield 26, 3) := by decide +kernel
theorem d_R_ticket_120 : decode b_R_ticket 120 = .ok (.iload_n 1, 1) := by decide +kernel
theorem d_R_ticket_121 : decode b_R_ticket 121 = .ok (.invokevirtual 121, 3) := by decide +kernel
theorem d_R_ticket_124 : decode b_R_ticket 124 = .ok (.ireturn, 1) := by decide +kernel
theorem d_R_ticket_125 : decode b_R_ticket 125 = .ok (.aload_n 0, 1) := by decide +kernel
theorem d_R_ticket_126 : decode b_R_ticket 126 = .ok (.getfield 26, 3) := by decide +kernel
theorem d_R_ticket_129 : decode b_R_ticket 129 = .ok (.iload_n 1, 1) := by decide +kernel
theorem d_R_ticket_130 : decode b_R_ticket 130 = .ok (.invokevirtual 124, 3) := by decide +kernel
theorem d_R_ticket_133 : decode b_R_ticket 133 = .ok (.ireturn, 1) := by decide +kernel
theorem d_R_ticket_134 : decode b_R_ticket 134 = .ok (.aload_n 0, 1) := by decide +kernel
theorem d_R_ticket_135 : decode b_R_ticket 135 = .ok (.getfield 26, 3) := by decide +kernel
theorem d_R_ticket_138 : decode b_R_ticket 138 = .ok (.iload_n 1, 1) := by decide +kernel
theorem d_R_ticket_139 : decode b_R_ticket 139 = .ok (.invokevirtual 127, 3) := by decide +kernel
theorem d_R_ticket_142 : decode b_R_ticket 142 = .ok (.ireturn, 1) := by decide +kernel
theorem d_L_axle_0 : decode b_L_axle 0 = .ok (.aload_n 2, 1) := by decide +kernel
theorem d_L_axle_1 : decode b_L_axle 1 = .ok (.iconst 0, 1) := by decide +kernel
theorem d_L_axle_2 : decode b_L_axle 2 = .ok (.aload_n 0, 1) := by decide +kernel
theorem d_L_axle_3 : decode b_L_axle 3 = .ok (.iload_n 1, 1) := by decide +kernel
theorem d_L_axle_4 : decode b_L_axle 4 = .ok (.invokevirtual 7, 3) := by decide +kernel
theorem d_L_axle_7 : decode b_L_axle 7 = .ok (.i2l, 1) := by decide +kernel
theorem d_L_axle_8 : decode b_L_axle 8 = .ok (.lastore, 1) := by decide +kernel
theorem d_L_axle_9 : decode b_L_axle 9 = .ok (.goto (9), 3) := by decide +kernel
theorem d_L_axle_12 : decode b_L_axle 12 = .ok (.astore_n 3, 1) := by decide +kernel
theorem d_L_axle_13 : decode b_L_axle 13 = .ok (.iconst 1, 1) := by decide +kernel
theorem d_L_axle_14 : decode b_L_axle 14 = .ok (.ireturn, 1) := by decide +kernel
theorem d_L_axle_15 : decode b_L_axle 15 = .ok (.astore_n 3, 1) := by decide +kernel
theorem d_L_axle_16 : decode b_L_axle 16 = .ok (.iconst 2, 1) := by decide +kernel
theorem d_L_axle_17 : decode b_L_axle 17 = .ok (.ireturn, 1) := by decide +kernel
theorem d_L_axle_18 : decode b_L_axle 18 = .ok (.iconst 0, 1) := by decide +kernel
theorem d_L_axle_19 : decode b_L_axle 19 = .ok (.ireturn, 1) := by decide +kernel
theorem d_L_close_0 : decode b_L_close 0 = .ok (.aload 5, 2) := by decide +kernel
theorem d_L_close_2 : decode b_L_close 2 = .ok (.iconst 0, 1) := by decide +kernel
theorem d_L_close_3 : decode b_L_close 3 = .ok (.aload_n 0, 1) := by decide +kernel
theorem d_L_close_4 : decode b_L_close 4 = .ok (.iload_n 1, 1) := by decide +kernel
theorem d_L_close_5 : decode b_L_close 5 = .ok (.iload_n 2, 1) := by decide +kernel
theorem d_L_close_6 : decode b_L_close 6 = .ok (.iload_n 3, 1) := by decide +kernel
theorem d_L_close_7 : decode b_L_close 7 = .ok (.iload 4, 2) := by decide +kernel
theorem d_L_close_9 : decode b_L_close 9 = .ok (.invokevirtual 17, 3) := by decide +kernel
theorem d_L_close_12 : decode b_L_close 12 = .ok (.i2l, 1) := by decide +kernel
theorem d_L_close_13 : decode b_L_close 13 = .ok (.lastore, 1) := by decide +kernel
theorem d_L_close_14 : decode b_L_close 14 = .ok (.goto (11), 3) := by decide +kernel
theorem d_L_close_17 : decode b_L_close 17 = .ok (.astore 6, 2) := by decide +kernel
theorem d_L_close_19 : decode b_L_close 19 = .ok (.iconst 1, 1) := by decide +kernel
theorem d_L_close_20 : decode b_L_close 20 = .ok (.ireturn, 1) := by decide +kernel
theorem d_L_close_21 : decode b_L_close 21 = .ok (.astore 6, 2) := by decide +kernel
theorem d_L_close_23 : decode b_L_close 23 = .ok (.iconst 2, 1) := by decide +kernel
theorem d_L_close_24 : decode b_L_close 24 = .ok (.ireturn, 1) := by decide +kernel
theorem d_L_close_25 : decode b_L_close 25 = .ok (.iconst 0, 1) := by decide +kernel
theorem d_L_close_26 : decode b_L_close 26 = .ok (.ireturn, 1) := by decide +kernel
theorem d_L_annul_0 : decode b_L_annul 0 = .ok (.aload_n 3, 1) := by decide +kernel
theorem d_L_annul_1 : decode b_L_annul 1 = .ok (.iconst 0, 1) := by decide +kernel
theorem d_L_annul_2 : decode b_L_annul 2 = .ok (.aload_n 0, 1) := by decide +kernel
theorem d_L_annul_3 : decode b_L_annul 3 = .ok (.iload_n 1, 1) := by decide +kernel
theorem d_L_annul_4 : decode b_L_annul 4 = .ok (.iload_n 2, 1) := by decide +kernel
theorem d_L_annul_5 : decode b_L_annul 5 = .ok (.invokevirtual 21, 3) := by decide +kernel
theorem d_L_annul_8 : decode b_L_annul 8 = .ok (.i2l, 1) := by decide +kernel
theorem d_L_annul_9 : decode b_L_annul 9 = .ok (.lastore, 1) := by decide +kernel
theorem d_L_annul_10 : decode b_L_annul 10 = .ok (.goto (11), 3) := by decide +kernel
theorem d_L_annul_13 : decode b_L_annul 13 = .ok (.astore 4, 2) := by decide +kernel
theorem d_L_annul_15 : decode b_L_annul 15 = .ok (.iconst 1, 1) := by decide +kernel
theorem d_L_annul_16 : decode b_L_annul 16 = .ok (.ireturn, 1) := by decide +kernel
theorem d_L_annul_17 : decode b_L_annul 17 = .ok (.astore 4, 2) := by decide +kernel
theorem d_L_annul_19 : decode b_L_annul 19 = .ok (.iconst 2, 1) := by decide +kernel
theorem d_L_annul_20 : decode b_L_annul 20 = .ok (.ireturn, 1) := by decide +kernel
theorem d_L_annul_21 : decode b_L_annul 21 = .ok (.iconst 0, 1) := by decide +kernel
theorem d_L_annul_22 : decode b_L_annul 22 = .ok (.ireturn, 1) := by decide +kernel
theorem d_L_sync_0 : decode b_L_sync 0 = .ok (.aload_n 1, 1) := by decide +kernel
theorem d_L_sync_1 : decode b_L_sync 1 = .ok (.iconst 0, 1) := by decide +kernel
theorem d_L_sync_2 : decode b_L_sync 2 = .ok (.aload_n 0, 1) := by decide +kernel
theorem d_L_sync_3 : decode b_L_sync 3 = .ok (.invokevirtual 25, 3) := by decide +kernel
theorem d_L_sync_6 : decode b_L_sync 6 = .ok (.i2l, 1) := by decide +kernel
theorem d_L_sync_7 : decode b_L_sync 7 = .ok (.lastore, 1) := by decide +kernel
theorem d_L_sync_8 : decode b_L_sync 8 = .ok (.goto (6), 3) := by decide +kernel
theorem d_L_sync_11 : decode b_L_sync 11 = .ok (.astore_n 2, 1) := by decide +kernel
theorem d_L_sync_12 : decode b_L_sync 12 = .ok (.iconst 1, 1) := by decide +kernel
theorem d_L_sync_13 : decode b_L_sync 13 = .ok (.ireturn, 1) := by decide +kernel
theorem d_L_sync_14 : decode b_L_sync 14 = .ok (.iconst 0, 1) := by decide +kernel
theorem d_L_sync_15 : decode b_L_sync 15 = .ok (.ireturn, 1) := by decide +kernel
theorem d_L_dayTotal_0 : decode b_L_dayTotal 0 = .ok (.aload_n 3, 1) := by decide +kernel
theorem d_L_dayTotal_1 : decode b_L_dayTotal 1 = .ok (.iconst 0, 1) := by decide +kernel
theorem d_L_dayTotal_2 : decode b_L_dayTotal 2 = .ok (.aload_n 0, 1) := by decide +kernel
theorem d_L_dayTotal_3 : decode b_L_dayTotal 3 = .ok (.iload_n 1, 1) := by decide +kernel
theorem d_L_dayTotal_4 : decode b_L_dayTotal 4 = .ok (.iload_n 2, 1) := by decide +kernel
theorem d_L_dayTotal_5 : decode b_L_dayTotal 5 = .ok (.invokevirtual 34, 3) := by decide +kernel
theorem d_L_dayTotal_8 : decode b_L_dayTotal 8 = .ok (.lastore, 1) := by decide +kernel
theorem d_L_dayTotal_9 : decode b_L_dayTotal 9 = .ok (.goto (7), 3) := by decide +kernel
theorem d_L_dayTotal_12 : decode b_L_dayTotal 12 = .ok (.astore 4, 2) := by decide +kernel
theorem d_L_dayTotal_14 : decode b_L_dayTotal 14 = .ok (.iconst 1, 1) := by decide +kernel
theorem d_L_dayTotal_15 : decode b_L_dayTotal 15 = .ok (.ireturn, 1) := by decide +kernel
theorem d_L_dayTotal_16 : decode b_L_dayTotal 16 = .ok (.iconst 0, 1) := by decide +kernel
theorem d_L_dayTotal_17 : decode b_L_dayTotal 17 = .ok (.ireturn, 1) := by decide +kernel
theorem d_L_rangeTotal_0 : decode b_L_rangeTotal 0 = .ok (.aload_n 3, 1) := by decide +kernel
theorem d_L_rangeTotal_1 : decode b_L_rangeTotal 1 = .ok (.iconst 0, 1) := by decide +kernel
theorem d_L_rangeTotal_2 : decode b_L_rangeTotal 2 = .ok (.aload_n 0, 1) := by decide +kernel
theorem d_L_rangeTotal_3 : decode b_L_rangeTotal 3 = .ok (.iload_n 1, 1) := by decide +kernel
theorem d_L_rangeTotal_4 : decode b_L_rangeTotal 4 = .ok (.iload_n 2, 1) := by decide +kernel
theorem d_L_rangeTotal_5 : decode b_L_rangeTotal 5 = .ok (.invokevirtual 38, 3) := by decide +kernel
theorem d_L_rangeTotal_8 : decode b_L_rangeTotal 8 = .ok (.lastore, 1) := by decide +kernel
theorem d_L_rangeTotal_9 : decode b_L_rangeTotal 9 = .ok (.goto (7), 3) := by decide +kernel
theorem d_L_rangeTotal_12 : decode b_L_rangeTotal 12 = .ok (.astore 4, 2) := by decide +kernel
theorem d_L_rangeTotal_14 : decode b_L_rangeTotal 14 = .ok (.iconst 1, 1) := by decide +kernel
theorem d_L_rangeTotal_15 : decode b_L_rangeTotal 15 = .ok (.ireturn, 1) := by decide +kernel
theorem d_L_rangeTotal_16 : decode b_L_rangeTotal 16 = .ok (.iconst 0, 1) := by decide +kernel
theorem d_L_rangeTotal_17 : decode b_L_rangeTotal 17 = .ok (.ireturn, 1) := by decide +kernel
theorem d_L_find_0 : decode b_L_find 0 = .ok (.aload_n 3, 1) := by decide +kernel
theorem d_L_find_1 : decode b_L_find 1 = .ok (.iconst 0, 1) := by decide +kernel
theorem d_L_find_2 : decode b_L_find 2 = .ok (.aload_n 0, 1) := by decide +kernel
theorem d_L_find_3 : decode b_L_find 3 = .ok (.iload_n 1, 1) := by decide +kernel
theorem d_L_find_4 : decode b_L_find 4 = .ok (.iload_n 2, 1) := by decide +kernel
theorem d_L_find_5 : decode b_L_find 5 = .ok (.invokevirtual 41, 3) := by decide +kernel
theorem d_L_find_8 : decode b_L_find 8 = .ok (.i2l, 1) := by decide +kernel
theorem d_L_find_9 : decode b_L_find 9 = .ok (.lastore, 1) := by decide +kernel
theorem d_L_find_10 : decode b_L_find 10 = .ok (.goto (7), 3) := by decide +kernel
theorem d_L_find_13 : decode b_L_find 13 = .ok (.astore 4, 2) := by decide +kernel
theorem d_L_find_15 : decode b_L_find 15 = .ok (.iconst 1, 1) := by decide +kernel
theorem d_L_find_16 : decode b_L_find 16 = .ok (.ireturn, 1) := by decide +kernel
theorem d_L_find_17 : decode b_L_find 17 = .ok (.iconst 0, 1) := by decide +kernel
theorem d_L_find_18 : decode b_L_find 18 = .ok (.ireturn, 1) := by decide +kernel
theorem d_L_audit_0 : decode b_L_audit 0 = .ok (.aload_n 3, 1) := by decide +kernel
theorem d_L_audit_1 : decode b_L_audit 1 = .ok (.iconst 0, 1) := by decide +kernel
theorem d_L_audit_2 : decode b_L_audit 2 = .ok (.aload_n 0, 1) := by decide +kernel
theorem d_L_audit_3 : decode b_L_audit 3 = .ok (.iload_n 1, 1) := by decide +kernel
theorem d_L_audit_4 : decode b_L_audit 4 = .ok (.iload_n 2, 1) := by decide +kernel
theorem d_L_audit_5 : decode b_L_audit 5 = .ok (.invokevirtual 44, 3) := by decide +kernel
theorem d_L_audit_8 : decode b_L_audit 8 = .ok (.i2l, 1) := by decide +kernel
theorem d_L_audit_9 : decode b_L_audit 9 = .ok (.lastore, 1) := by decide +kernel
theorem d_L_audit_10 : decode b_L_audit 10 = .ok (.goto (7), 3) := by decide +kernel
theorem d_L_audit_13 : decode b_L_audit 13 = .ok (.astore 4, 2) := by decide +kernel
theorem d_L_audit_15 : decode b_L_audit 15 = .ok (.iconst 1, 1) := by decide +kernel
theorem d_L_audit_16 : decode b_L_audit 16 = .ok (.ireturn, 1) := by decide +kernel
theorem d_L_audit_17 : decode b_L_audit 17 = .ok (.iconst 0, 1) := by decide +kernel
theorem d_L_audit_18 : decode b_L_audit 18 = .ok (.ireturn, 1) := by decide +kernel
theorem d_L_exportByte_0 : decode b_L_exportByte 0 = .ok (.aload 4, 2) := by decide +kernel
theorem d_L_exportByte_2 : decode b_L_exportByte 2 = .ok (.iconst 0, 1) := by decide +kernel
theorem d_L_exportByte_3 : decode b_L_exportByte 3 = .ok (.aload_n 0, 1) := by decide +kernel
theorem d_L_exportByte_4 : decode b_L_exportByte 4 = .ok (.iload_n 1, 1) := by decide +kernel
theorem d_L_exportByte_5 : decode b_L_exportByte 5 = .ok (.iload_n 2, 1) := by decide +kernel
theorem d_L_exportByte_6 : decode b_L_exportByte 6 = .ok (.iload_n 3, 1) := by decide +kernel
theorem d_L_exportByte_7 : decode b_L_exportByte 7 = .ok (.invokevirtual 47, 3) := by decide +kernel
theorem d_L_exportByte_10 : decode b_L_exportByte 10 = .ok (.i2l, 1) := by decide +kernel
theorem d_L_exportByte_11 : decode b_L_exportByte 11 = .ok (.lastore, 1) := by decide +kernel
theorem d_L_exportByte_12 : decode b_L_exportByte 12 = .ok (.goto (7), 3) := by decide +kernel
theorem d_L_exportByte_15 : decode b_L_exportByte 15 = .ok (.astore 5, 2) := by decide +kernel
theorem d_L_exportByte_17 : decode b_L_exportByte 17 = .ok (.iconst 1, 1) := by decide +kernel
theorem d_L_exportByte_18 : decode b_L_exportByte 18 = .ok (.ireturn, 1) := by decide +kernel
theorem d_L_exportByte_19 : decode b_L_exportByte 19 = .ok (.iconst 0, 1) := by decide +kernel
theorem d_L_exportByte_20 : decode b_L_exportByte 20 = .ok (.ireturn, 1) := by decide +kernel
theorem d_L_wearOf_0 : decode b_L_wearOf 0 = .ok (.aload_n 2, 1) := by decide +kernel
theorem d_L_wearOf_1 : decode b_L_wearOf 1 = .ok (.iconst 0, 1) := by decide +kernel
theorem d_L_wearOf_2 : decode b_L_wearOf 2 = .ok (.aload_n 0, 1) := by decide +kernel
theorem d_L_wearOf_3 : decode b_L_wearOf 3 = .ok (.iload_n 1, 1) := by decide +kernel
theorem d_L_wearOf_4 : decode b_L_wearOf 4 = .ok (.invokevirtual 59, 3) := by decide +kernel
theorem d_L_wearOf_7 : decode b_L_wearOf 7 = .ok (.i2l, 1) := by decide +kernel
theorem d_L_wearOf_8 : decode b_L_wearOf 8 = .ok (.lastore, 1) := by decide +kernel
theorem d_L_wearOf_9 : decode b_L_wearOf 9 = .ok (.goto (6), 3) := by decide +kernel
theorem d_L_wearOf_12 : decode b_L_wearOf 12 = .ok (.astore_n 3, 1) := by decide +kernel
theorem d_L_wearOf_13 : decode b_L_wearOf 13 = .ok (.iconst 1, 1) := by decide +kernel
theorem d_L_wearOf_14 : decode b_L_wearOf 14 = .ok (.ireturn, 1) := by decide +kernel
theorem d_L_wearOf_15 : decode b_L_wearOf 15 = .ok (.iconst 0, 1) := by decide +kernel
theorem d_L_wearOf_16 : decode b_L_wearOf 16 = .ok (.ireturn, 1) := by decide +kernel
theorem d_L_word_0 : decode b_L_word 0 = .ok (.aload_n 3, 1) := by decide +kernel
theorem d_L_word_1 : decode b_L_word 1 = .ok (.iconst 0, 1) := by decide +kernel
theorem d_L_word_2 : decode b_L_word 2 = .ok (.aload_n 0, 1) := by decide +kernel
theorem d_L_word_3 : decode b_L_word 3 = .ok (.iload_n 1, 1) := by decide +kernel
theorem d_L_word_4 : decode b_L_word 4 = .ok (.iload_n 2, 1) := by decide +kernel
theorem d_L_word_5 : decode b_L_word 5 = .ok (.invokevirtual 69, 3) := by decide +kernel
theorem d_L_word_8 : decode b_L_word 8 = .ok (.i2l, 1) := by decide +kernel
theorem d_L_word_9 : decode b_L_word 9 = .ok (.lastore, 1) := by decide +kernel
theorem d_L_word_10 : decode b_L_word 10 = .ok (.goto (7), 3) := by decide +kernel
theorem d_L_word_13 : decode b_L_word 13 = .ok (.astore 4, 2) := by decide +kernel
theorem d_L_word_15 : decode b_L_word 15 = .ok (.iconst 1, 1) := by decide +kernel
theorem d_L_word_16 : decode b_L_word 16 = .ok (.ireturn, 1) := by decide +kernel
theorem d_L_word_17 : decode b_L_word 17 = .ok (.iconst 0, 1) := by decide +kernel
theorem d_L_word_18 : decode b_L_word 18 = .ok (.ireturn, 1) := by decide +kernel
theorem d_L_setProduct_0 : decode b_L_setProduct 0 = .ok (.aload_n 0, 1) := by decide +kernel
theorem d_L_setProduct_1 : decode b_L_setProduct 1 = .ok (.iload_n 1, 1) := by decide +kernel
theorem d_L_setProduct_2 : decode b_L_setProduct 2 = .ok (.iload_n 2, 1) := by decide +kernel
theorem d_L_setProduct_3 : decode b_L_setProduct 3 = .ok (.invokevirtual 51, 3) := by decide +kernel
theorem d_L_setProduct_6 : decode b_L_setProduct 6 = .ok (.goto (6), 3) := by decide +kernel
theorem d_L_setProduct_9 : decode b_L_setProduct 9 = .ok (.astore_n 3, 1) := by decide +kernel
theorem d_L_setProduct_10 : decode b_L_setProduct 10 = .ok (.iconst 1, 1) := by decide +kernel
theorem d_L_setProduct_11 : decode b_L_setProduct 11 = .ok (.ireturn, 1) := by decide +kernel
theorem d_L_setProduct_12 : decode b_L_setProduct 12 = .ok (.iconst 0, 1) := by decide +kernel
theorem d_L_setProduct_13 : decode b_L_setProduct 13 = .ok (.ireturn, 1) := by decide +kernel
theorem d_L_cutAfter_0 : decode b_L_cutAfter 0 = .ok (.aload_n 0, 1) := by decide +kernel
theorem d_L_cutAfter_1 : decode b_L_cutAfter 1 = .ok (.iload_n 1, 1) := by decide +kernel
theorem d_L_cutAfter_2 : decode b_L_cutAfter 2 = .ok (.invokevirtual 55, 3) := by decide +kernel
theorem d_L_cutAfter_5 : decode b_L_cutAfter 5 = .ok (.goto (6), 3) := by decide +kernel
theorem d_L_cutAfter_8 : decode b_L_cutAfter 8 = .ok (.astore_n 2, 1) := by decide +kernel
theorem d_L_cutAfter_9 : decode b_L_cutAfter 9 = .ok (.iconst 1, 1) := by decide +kernel
theorem d_L_cutAfter_10 : decode b_L_cutAfter 10 = .ok (.ireturn, 1) := by decide +kernel
theorem d_L_cutAfter_11 : decode b_L_cutAfter 11 = .ok (.iconst 0, 1) := by decide +kernel
theorem d_L_cutAfter_12 : decode b_L_cutAfter 12 = .ok (.ireturn, 1) := by decide +kernel
theorem d_L_failBlock_0 : decode b_L_failBlock 0 = .ok (.aload_n 0, 1) := by decide +kernel
theorem d_L_failBlock_1 : decode b_L_failBlock 1 = .ok (.iload_n 1, 1) := by decide +kernel
theorem d_L_failBlock_2 : decode b_L_failBlock 2 = .ok (.invokevirtual 62, 3) := by decide +kernel
theorem d_L_failBlock_5 : decode b_L_failBlock 5 = .ok (.goto (6), 3) := by decide +kernel
theorem d_L_failBlock_8 : decode b_L_failBlock 8 = .ok (.astore_n 2, 1) := by decide +kernel
theorem d_L_failBlock_9 : decode b_L_failBlock 9 = .ok (.iconst 1, 1) := by decide +kernel
theorem d_L_failBlock_10 : decode b_L_failBlock 10 = .ok (.ireturn, 1) := by decide +kernel
theorem d_L_failBlock_11 : decode b_L_failBlock 11 = .ok (.iconst 0, 1) := by decide +kernel
theorem d_L_failBlock_12 : decode b_L_failBlock 12 = .ok (.ireturn, 1) := by decide +kernel
theorem d_L_poke_0 : decode b_L_poke 0 = .ok (.aload_n 0, 1) := by decide +kernel
theorem d_L_poke_1 : decode b_L_poke 1 = .ok (.iload_n 1, 1) := by decide +kernel
theorem d_L_poke_2 : decode b_L_poke 2 = .ok (.iload_n 2, 1) := by decide +kernel
theorem d_L_poke_3 : decode b_L_poke 3 = .ok (.iload_n 3, 1) := by decide +kernel
theorem d_L_poke_4 : decode b_L_poke 4 = .ok (.invokevirtual 65, 3) := by decide +kernel
theorem d_L_poke_7 : decode b_L_poke 7 = .ok (.goto (7), 3) := by decide +kernel
theorem d_L_poke_10 : decode b_L_poke 10 = .ok (.astore 4, 2) := by decide +kernel
theorem d_L_poke_12 : decode b_L_poke 12 = .ok (.iconst 1, 1) := by decide +kernel
theorem d_L_poke_13 : decode b_L_poke 13 = .ok (.ireturn, 1) := by decide +kernel
theorem d_L_poke_14 : decode b_L_poke 14 = .ok (.iconst 0, 1) := by decide +kernel
theorem d_L_poke_15 : decode b_L_poke 15 = .ok (.ireturn, 1) := by decide +kernel
theorem d_L_ticket_0 : decode b_L_ticket 0 = .ok (.aload_n 3, 1) := by decide +kernel
theorem d_L_ticket_1 : decode b_L_ticket 1 = .ok (.iconst 0, 1) := by decide +kernel
theorem d_L_ticket_2 : decode b_L_ticket 2 = .ok (.aload_n 0, 1) := by decide +kernel
theorem d_L_ticket_3 : decode b_L_ticket 3 = .ok (.iload_n 1, 1) := by decide +kernel
theorem d_L_ticket_4 : decode b_L_ticket 4 = .ok (.iload_n 2, 1) := by decide +kernel
theorem d_L_ticket_5 : decode b_L_ticket 5 = .ok (.invokevirtual 29, 3) := by decide +kernel
theorem d_L_ticket_8 : decode b_L_ticket 8 = .ok (.i2l, 1) := by decide +kernel
theorem d_L_ticket_9 : decode b_L_ticket 9 = .ok (.lastore, 1) := by decide +kernel
theorem d_L_ticket_10 : decode b_L_ticket 10 = .ok (.goto (11), 3) := by decide +kernel
theorem d_L_ticket_13 : decode b_L_ticket 13 = .ok (.astore 4, 2) := by decide +kernel
theorem d_L_ticket_15 : decode b_L_ticket 15 = .ok (.iconst 1, 1) := by decide +kernel
theorem d_L_ticket_16 : decode b_L_ticket 16 = .ok (.ireturn, 1) := by decide +kernel
theorem d_L_ticket_17 : decode b_L_ticket 17 = .ok (.astore 4, 2) := by decide +kernel
theorem d_L_ticket_19 : decode b_L_ticket 19 = .ok (.iconst 2, 1) := by decide +kernel
theorem d_L_ticket_20 : decode b_L_ticket 20 = .ok (.ireturn, 1) := by decide +kernel
theorem d_L_ticket_21 : decode b_L_ticket 21 = .ok (.iconst 0, 1) := by decide +kernel
theorem d_L_ticket_22 : decode b_L_ticket 22 = .ok (.ireturn, 1) := by decide +kernel
end
section
/-! worlds within worlds: the recorder's and the law's own array; what a wrapper may change; calls of methods that have an exception table -/
def oA (ao : Nat) (ad : Nat → Nat) (sz : Nat) : Nat → Prop := fun q => q = ao ∨ xA 15 ad sz q
theorem oA_up {ao : Nat} {ad : Nat → Nat} {a b : Nat} (h : a ≤ b) : ∀ q, oA ao ad b q → oA ao ad a q := fun q hq => hq.imp id (xA_up h q)
theorem xw_A {ad cd : Nat → Nat} {sz q : Nat} {w wr fl : Nat → Int32} {pw sc : Int32} {lw rot vb : Nat → Int32} {rec tk : Int32} {live row : Nat → Int32} {cur ser dur wo : Int32} {bts : Nat → Int32} {us : Int32} {act : Nat → Int32} {rd rs : Int32} (h : xA 15 ad sz q) : va_A (xw ad cd w wr fl pw sc lw rot vb rec tk live row cur ser dur wo bts us act rd rs) sz q := by
  rcases h with ⟨k, hk, rfl⟩ | h
  · refine Or.inl ⟨k, ?_⟩
    rcases (show k = 0 ∨ k = 1 ∨ k = 2 ∨ k = 3 ∨ k = 4 ∨ k = 5 ∨ k = 6 ∨ k = 7 ∨ k = 8 ∨ k = 9 ∨ k = 10 ∨ k = 11 ∨ k = 12 ∨ k = 13 ∨ k = 14 by omega) with rfl | rfl | rfl | rfl | rfl | rfl | rfl | rfl | rfl | rfl | rfl | rfl | rfl | rfl | rfl <;> exact ⟨_, rfl⟩
  · exact Or.inr h
theorem mw_A {am cm : Nat → Nat} {sz q : Nat} {th : Int32} {mw mwr mfl mact : Nat → Int32} {on cut mrec : Int32} {mlog mlive had : Nat → Int32} {mser mcur mrd mwt worn : Int32} {pg : Nat → Int32} {pla sou fou : Int32} (h : xA 9 am sz q) : va_A (mw_ am cm th mw mwr mfl mact on cut mrec mlog mlive had mser mcur mrd mwt worn pg pla sou fou) sz q := by
  rcases h with ⟨k, hk, rfl⟩ | h
  · refine Or.inl ⟨k, ?_⟩
    rcases (show k = 0 ∨ k = 1 ∨ k = 2 ∨ k = 3 ∨ k = 4 ∨ k = 5 ∨ k = 6 ∨ k = 7 ∨ k = 8 by omega) with rfl | rfl | rfl | rfl | rfl | rfl | rfl | rfl | rfl <;> exact ⟨_, rfl⟩
  · exact Or.inr h
theorem ow_A {ad cd : Nat → Nat} {ao co sz q : Nat} {w wr fl : Nat → Int32} {pw sc : Int32} {lw rot vb : Nat → Int32} {rec tk : Int32} {live row : Nat → Int32} {cur ser dur wo : Int32} {bts : Nat → Int32} {us : Int32} {act : Nat → Int32} {rd rs : Int32} {fo : Nat → Int64} (h : oA ao ad sz q) : va_A ((ao, .inl (co, 1, .inr (.inl fo))) :: xw ad cd w wr fl pw sc lw rot vb rec tk live row cur ser dur wo bts us act rd rs) sz q := by
  rcases h with rfl | h
  · exact Or.inl ⟨0, _, rfl⟩
  · rcases xw_A (cd := cd) (w := w) (wr := wr) (fl := fl) (pw := pw) (sc := sc) (lw := lw) (rot := rot) (vb := vb) (rec := rec) (tk := tk) (live := live) (row := row) (cur := cur) (ser := ser) (dur := dur) (wo := wo) (bts := bts) (us := us) (act := act) (rd := rd) (rs := rs) h with ⟨k, e, h⟩ | h
    · exact Or.inl ⟨k + 1, e, h⟩
    · exact Or.inr h
theorem ow_D {B : Nat → Prop} {ad cd : Nat → Nat} {ao co sz : Nat} {w wr fl : Nat → Int32} {pw sc : Int32} {lw rot vb : Nat → Int32} {rec tk : Int32} {live row : Nat → Int32} {cur ser dur wo : Int32} {bts : Nat → Int32} {us : Int32} {act : Nat → Int32} {rd rs : Int32} {fo : Nat → Int64} (h : va_D B ((ao, .inl (co, 1, .inr (.inl fo))) :: xw ad cd w wr fl pw sc lw rot vb rec tk live row cur ser dur wo bts us act rd rs)) : va_D (oA ao ad sz) ((ao, .inl (co, 1, .inr (.inl fo))) :: xw ad cd w wr fl pw sc lw rot vb rec tk live row cur ser dur wo bts us act rd rs) := by
  refine ⟨h.1, fun k q hk => ?_⟩
  have hl : k < 16 := (List.getElem?_eq_some_iff.mp hk).1
  rcases (show k = 0 ∨ k = 1 ∨ k = 2 ∨ k = 3 ∨ k = 4 ∨ k = 5 ∨ k = 6 ∨ k = 7 ∨ k = 8 ∨ k = 9 ∨ k = 10 ∨ k = 11 ∨ k = 12 ∨ k = 13 ∨ k = 14 ∨ k = 15 by omega) with rfl | rfl | rfl | rfl | rfl | rfl | rfl | rfl | rfl | rfl | rfl | rfl | rfl | rfl | rfl | rfl
  · cases hk; exact Or.inl rfl
  · cases hk; exact Or.inr (Or.inl ⟨0, by decide, rfl⟩)
  · cases hk; exact Or.inr (Or.inl ⟨1, by decide, rfl⟩)
  · cases hk; exact Or.inr (Or.inl ⟨2, by decide, rfl⟩)
  · cases hk; exact Or.inr (Or.inl ⟨3, by decide, rfl⟩)
  · cases hk; exact Or.inr (Or.inl ⟨4, by decide, rfl⟩)
  · cases hk; exact Or.inr (Or.inl ⟨5, by decide, rfl⟩)
  · cases hk; exact Or.inr (Or.inl ⟨6, by decide, rfl⟩)
  · cases hk; exact Or.inr (Or.inl ⟨7, by decide, rfl⟩)
  · cases hk; exact Or.inr (Or.inl ⟨8, by decide, rfl⟩)
  · cases hk; exact Or.inr (Or.inl ⟨9, by decide, rfl⟩)
  · cases hk; exact Or.inr (Or.inl ⟨10, by decide, rfl⟩)
  · cases hk; exact Or.inr (Or.inl ⟨11, by decide, rfl⟩)
  · cases hk; exact Or.inr (Or.inl ⟨12, by decide, rfl⟩)
  · cases hk; exact Or.inr (Or.inl ⟨13, by decide, rfl⟩)
  · cases hk; exact Or.inr (Or.inl ⟨14, by decide, rfl⟩)
section SW
variable {p : Program} {l : Launch} {e : Env} {R : Room} {s : State} {m : MethodId} {args : Array Value} {below : List Frame} {meth : Method} {c : Code} {H : Heap} {locs : List Loc} {cells slots : Nat}
variable {y : MethodName} {bytes cc : ByteArray} {maxL nL mc ms n index : Nat} {ret : Option FieldType} {hh : List (Nat × Nat × Nat × Nat)} {ws : List Cond} {rm : Room} {Pc : Array Value → State → Prop} {Qc : Array Value → State → Outcome → State → Prop} {free : Addr → Prop} {Ts : List Cond} {own : String} {As rest : List Value} {g : JFrame}
/-- a static call of a method that has an exception table -/
theorem sw_run (S : CallFix p m c cc nL s args Ts own) (hM : Met l y ws rm Pc Qc mc ms free) (hG : GoodIn Ts ws) (hcw : Cond.codeWith y bytes maxL ret hh ∈ ws) (hl : (Cond.methodLink own index y).before args s = true) (hstt : (Cond.static y).before args s = true) (hini : (Cond.initialized y.cls).before args s = true)
    (hrc : rm.cells = mc) (hrs : rm.slots = ms) (hfr : rm.frames + 1 ≤ R.frames) (hlo : 8 + (maxL + 11) + rm.locals ≤ R.locals) (hd : y.cls ≠ "java/lang/invoke/MethodHandle" ∧ y.cls ≠ "java/lang/invoke/VarHandle" ∧ (parseMethodDescriptor y.desc).map (fun d => d.parameters.length) = some n) (hp : PreS s H Pc As)
    (hg : g.method = m) (hn : As.length = n) (hsize : g.locals.size = nL) (hstack : g.stack = As.reverse ++ rest) (hW : 2 * g.monitorRoom + (rest.map fun v => v.category).sum ≤ 8) (hdg : decode cc g.pc = .ok (.invokestatic index, 3)) (hf : cells + mc ≤ R.cells ∧ slots + ms ≤ R.slots) :
    va_Run p l e R s m args below meth c H locs cells slots mc ms g rest (Qc As.toArray) free := by
  obtain ⟨hx, hb, hml, ho, hts⟩ := S
  have hK : Back l R p e below s args y 3 8 (PreOf R mc ms Pc) (PostOf Qc mc ms free) := va_backW (hh := hh) (bytes := bytes) (maxL := maxL) (ret := ret) hM hp.1 hrc hrs hfr hlo (pay_in hts hG) hcw (fun a' U hW => word_at hW (Or.inl (by first | rfl | simp [Cond.onTables, Cond.keeps, Cond.steady])) hini)
  obtain ⟨mk, methM, cM, hnamed, hmethM, -, -, -, -, -, -, hsigM⟩ := Cond.codeWith_spec (hts _ (hG _ hcw).1)
  obtain ⟨kP, hkP, -⟩ := className_of_methodNamed hnamed
  have hlen : As.length = methM.sig.parameters.length := by
    have h2 := hd.2.2
    rw [hsigM] at h2
    exact hn.trans (Option.some.inj h2).symm
  intro T hT X
  have hdg' : decode c.code g.pc = .ok (.invokestatic index, 3) := by rw [hb]; exact hdg
  obtain ⟨vm₁, X₁, hstep₁⟩ := X.invokestatic hx ho hl hnamed hmethM (Cond.static_spec hnamed hmethM hstt) hkP (Cond.initialized_spec (findClass_of_methodNamed hnamed) hkP hini) ⟨hd.1, hd.2.1⟩ (g := g) hg (argsL := As) (rest := rest) hlen hstack hdg'
  obtain ⟨v, ⟨U', l2, c2, s2⟩, X', ⟨g', mk', t, L, e1, e2, hq, h1, hL, h2, h3⟩, st⟩ := hK m meth c ⟨T.setVm vm₁, locs, cells, slots⟩ { g with stack := rest } (.invokestatic index) mk As.toArray X₁ hg (hsize.trans hml.symm) hdg' hW (X₁.named hnamed) ⟨hf.1, hf.2, hp.2 (T.setVm vm₁) hT X₁.warmed⟩
  dsimp only [Pt.U, Pt.locs, Pt.cells, Pt.slots] at X' e1 e2 h1 h2 h3 st
  subst h1; subst h2; subst h3
  exact ⟨v, (T.setVm vm₁).calling g' mk' As.toArray, t, U', L, hT, X', hL, e1, e2, hq, fun target h => hstep₁ _ fun acts => by rw [doInvoke_state]; exact st.trans h⟩
end SW
/-- a wrapper's start: its cells, Throwable's statics, what doesn't go into what -/
def oP (D : va_G) (cl : List vw_C) (tys : List (ClassId × FieldType)) (ws : va_W) (sz az : Nat) (av : List Value) : Array Value → State → Prop := va_Pc av (fun U => U.heap.size = sz ∧ va_P D cl ws U.heap ∧ va_K D cl tys U ∧ va_D (fun _ => True) ws ∧ tz U U.heap az ∧ nwz U ∧ va_Nc E_I E_S U)
theorem oP_s {s : State} {H : Heap} {D : va_G} {cl : List vw_C} {tys : List (ClassId × FieldType)} {A : Nat → Prop} {ws : va_W} {As : List Value} {az : Nat} (hP : va_P D cl ws H) (hK : va_K D cl tys s) (hD : va_D A ws) (hz : tz s H az) (hn : nwz s) (hc : va_Nc E_I E_S s) : PreS s H (oP D cl tys ws H.size az As) As :=
  ⟨fun a U g mk q => by
    obtain ⟨q0, q1, qP, qK, qD, q3, q4, q5⟩ := q
    exact ⟨q0, q1, qP, va_K.moved (u := U) (U := U.calling g mk a) (Vm.Alike.refl U.vm) qK, qD, q3.moved (Vm.Alike.refl U.vm) rfl, ⟨⟨va_Nw.same rfl rfl q4.1.1, va_Nw.same rfl rfl q4.1.2.1, va_Nw.same rfl rfl q4.1.2.2⟩, fun y hy => va_Nw.same rfl rfl (q4.2 y hy)⟩, va_Nc.moved (Vm.Alike.refl U.vm) q5⟩,
   fun U hU hW => ⟨rfl, by rw [hU], by rw [hU]; exact hP, va_K.moved hW.alike hK, hD.weaken (fun _ _ _ _ => trivial), by rw [hU]; exact hz.moved hW.alike rfl, hn.warm hW, va_Nc.moved hW.alike hc⟩⟩
theorem rows_of {c : Code} {rows : List (Nat × Nat × Nat × Nat)} (h : c.exceptionTable.toList.map (fun h => (h.startPc, h.endPc, h.handlerPc, h.catchType)) = rows) : c.exceptionTable.toList = rows.map (fun q => ⟨q.1, q.2.1, q.2.2.1, q.2.2.2⟩) := by
  rw [← h, List.map_map]
  exact (List.map_id'' (fun x => by cases x; rfl) _).symm
end
section
set_option maxHeartbeats 4000000 in
set_option maxRecDepth 100000 in
theorem c_C_isPowered (l : Launch) (dC : Nat → ClassId) (dI : Nat → Nat → Nat) (ad cd : Nat → Nat) (w wr fl : Nat → Int32) (pw sc : Int32) (lw rot vb : Nat → Int32) (rec tk : Int32) (live row : Nat → Int32) (cur ser dur wo : Int32) (bts : Nat → Int32) (us : Int32) (act : Nat → Int32) (rd rs : Int32)  (hpw : narrow .boolean (.int pw) = .int pw) : Met l y_C_isPowered w_C_isPowered ({ frames := 0, cells := 0, slots := 0, locals := 0 }) (xR (dC, dI) vwCl (xt cd) (xw ad cd w wr fl pw sc lw rot vb rec tk live row cur ser dur wo bts us act rd rs) [.ref (ad 2)]) (vp_Si (fun r => r = pw)) 0 0 (fun _ => False) := by
  refine Met.ofW (cc := b_C_isPowered) (maxL := 1) (ret := (some (.boolean))) (by decide) rfl ?_
  intro P e s m args below meth c0 s₁ B hml hv
  obtain ⟨rfl, hP, hK⟩ := hv
  have hx := B.exec
  have hb := B.bytes
  have hr := B.returns
  have hts := atoms_spec (ws := w_C_isPowered) B.pre
  have hown : s.vm.findClass R_C = some m.cls := findClass_of_methodNamed B.named
  have hlocks := B.notSynchronized
  have hl := lv_entry ([.ref (ad 2)]) (n := 1) (Nat.le_of_ble_eq_true rfl)
  rw [lg_entry_eq]
  generalize (lg_sl ([.ref (ad 2)]) ++ List.replicate (1 - (lg_sl ([.ref (ad 2)])).length) Slot.unset).toArray = ls at hl ⊢
  have hl : lv_has ls 1 [(0, .ref (ad 2))] := hl
  refine lv_aload_n hx hb d_C_isPowered_0 rfl (lv_at hl 0 rfl) ?_
  refine va_get (D := (dC, dI)) (ci := 0) (v := .int pw) (C := R_C) (T := F_C) (N := 5) hx hb hts (fun w h => List.mem_cons_of_mem _ (in_C w h)) hown hK hP 2 rfl rfl 3 (by decide) (hts (.fieldLink R_C 22 R_C "powered" "Z") (List.mem_cons_of_mem _ t_37)) (fun _ h9 => h9) rfl d_C_isPowered_1 ?_
  exact W.zret (v := pw) hx hb hr (hpw) (fun t ht hW => ⟨pw, rfl, by first | rfl | trivial | omega, ht⟩) (fun q hq => by cases hq) d_C_isPowered_4
set_option maxHeartbeats 4000000 in
set_option maxRecDepth 100000 in
theorem c_C_read (l : Launch) (dC : Nat → ClassId) (dI : Nat → Nat → Nat) (ad cd : Nat → Nat) (w wr fl : Nat → Int32) (pw sc : Int32) (lw rot vb : Nat → Int32) (rec tk : Int32) (live row : Nat → Int32) (cur ser dur wo : Int32) (bts : Nat → Int32) (us : Int32) (act : Nat → Int32) (rd rs : Int32) (pa k : Nat) (hp : pa < 32) (hk : k < 16) : Met l y_C_read w_C_read ({ frames := 0, cells := 0, slots := 0, locals := 0 }) (xR (dC, dI) vwCl (xt cd) (xw ad cd w wr fl pw sc lw rot vb rec tk live row cur ser dur wo bts us act rd rs) [.ref (ad 2), .int (nI pa), .int (nI k)]) (vp_Si (fun r => r = w (16 * pa + k))) 0 0 (fun _ => False) := by
  refine Met.ofW (cc := b_C_read) (maxL := 3) (ret := (some (.int))) (by decide) rfl ?_
  intro P e s m args below meth c0 s₁ B hml hv
  obtain ⟨rfl, hP, hK⟩ := hv
  have hx := B.exec
  have hb := B.bytes
  have hr := B.returns
  have hts := atoms_spec (ws := w_C_read) B.pre
  have hown : s.vm.findClass R_C = some m.cls := findClass_of_methodNamed B.named
  have hlocks := B.notSynchronized
  have hl := lv_entry ([.ref (ad 2), .int (nI pa), .int (nI k)]) (n := 3) (Nat.le_of_ble_eq_true rfl)
  rw [lg_entry_eq]
  generalize (lg_sl ([.ref (ad 2), .int (nI pa), .int (nI k)]) ++ List.replicate (3 - (lg_sl ([.ref (ad 2), .int (nI pa), .int (nI k)])).length) Slot.unset).toArray = ls at hl ⊢
  have hl : lv_has ls 3 [(0, .ref (ad 2)), (1, .int (nI pa)), (2, .int (nI k))] := hl
  refine lv_aload_n hx hb d_C_read_0 rfl (lv_at hl 0 rfl) ?_
  refine va_get (D := (dC, dI)) (ci := 0) (v := .ref (ad 8)) (C := R_C) (T := F_C) (N := 5) hx hb hts (fun w h => List.mem_cons_of_mem _ (in_C w h)) hown hK hP 2 rfl rfl 0 (by decide) (hts (.fieldLink R_C 9 R_C "words" "[I") (List.mem_cons_of_mem _ t_34)) (fun _ h9 => h9) rfl d_C_read_1 ?_
  refine lv_iload_n hx hb d_C_read_4 rfl (lv_at hl 1 rfl) ?_
  refine lv_bipush (v := nI 16) hx hb d_C_read_5 (by decide) ?_
  refine lv_imul hx hb d_C_read_7 ?_
  refine tp_i (y := nI (pa * 16)) (pk_mul _ _) ?_
  refine lv_iload_n hx hb d_C_read_8 rfl (lv_at hl 2 rfl) ?_
  refine lv_iadd hx hb d_C_read_9 ?_
  refine tp_i (y := nI ((pa * 16) + k)) (nI_add _ _) ?_
  refine va_iald hx hb hK hP 8 3 rfl rfl (vp_in_nI (by omega) (by decide)) d_C_read_10 ?_
  refine tp_i (y := w ((pa * 16) + k)) (by rw [nI_clamp (by omega)]) ?_
  exact W.iret (v := w ((pa * 16) + k)) hx hb hr (fun t ht hW => ⟨w ((pa * 16) + k), rfl, by rw [Nat.mul_comm 16 pa], ht⟩) (fun q hq => by cases hq) d_C_read_11
set_option maxHeartbeats 4000000 in
set_option maxRecDepth 100000 in
theorem c_C_wearAt (l : Launch) (dC : Nat → ClassId) (dI : Nat → Nat → Nat) (ad cd : Nat → Nat) (w wr fl : Nat → Int32) (pw sc : Int32) (lw rot vb : Nat → Int32) (rec tk : Int32) (live row : Nat → Int32) (cur ser dur wo : Int32) (bts : Nat → Int32) (us : Int32) (act : Nat → Int32) (rd rs : Int32) (b : Nat) (hp : b < 8) : Met l y_C_wearAt w_C_wearAt ({ frames := 0, cells := 0, slots := 0, locals := 0 }) (xR (dC, dI) vwCl (xt cd) (xw ad cd w wr fl pw sc lw rot vb rec tk live row cur ser dur wo bts us act rd rs) [.ref (ad 2), .int (nI b)]) (vp_Si (fun r => r = wr b)) 0 0 (fun _ => False) := by
  refine Met.ofW (cc := b_C_wearAt) (maxL := 2) (ret := (some (.int))) (by decide) rfl ?_
  intro P e s m args below meth c0 s₁ B hml hv
  obtain ⟨rfl, hP, hK⟩ := hv
  have hx := B.exec
  have hb := B.bytes
  have hr := B.returns
  have hts := atoms_spec (ws := w_C_wearAt) B.pre
  have hown : s.vm.findClass R_C = some m.cls := findClass_of_methodNamed B.named
  have hlocks := B.notSynchronized
  have hl := lv_entry ([.ref (ad 2), .int (nI b)]) (n := 2) (Nat.le_of_ble_eq_true rfl)
  rw [lg_entry_eq]
  generalize (lg_sl ([.ref (ad 2), .int (nI b)]) ++ List.replicate (2 - (lg_sl ([.ref (ad 2), .int (nI b)])).length) Slot.unset).toArray = ls at hl ⊢
  have hl : lv_has ls 2 [(0, .ref (ad 2)), (1, .int (nI b))] := hl
  refine lv_aload_n hx hb d_C_wearAt_0 rfl (lv_at hl 0 rfl) ?_
  refine va_get (D := (dC, dI)) (ci := 0) (v := .ref (ad 9)) (C := R_C) (T := F_C) (N := 5) hx hb hts (fun w h => List.mem_cons_of_mem _ (in_C w h)) hown hK hP 2 rfl rfl 1 (by decide) (hts (.fieldLink R_C 15 R_C "wear" "[I") (List.mem_cons_of_mem _ t_35)) (fun _ h9 => h9) rfl d_C_wearAt_1 ?_
  refine lv_iload_n hx hb d_C_wearAt_4 rfl (lv_at hl 1 rfl) ?_
  refine va_iald hx hb hK hP 9 4 rfl rfl (vp_in_nI (by omega) (by decide)) d_C_wearAt_5 ?_
  refine tp_i (y := wr b) (by rw [nI_clamp (by omega)]) ?_
  exact W.iret (v := wr b) hx hb hr (fun t ht hW => ⟨wr b, rfl, by first | rfl | trivial | omega, ht⟩) (fun q hq => by cases hq) d_C_wearAt_6
set_option maxHeartbeats 4000000 in
set_option maxRecDepth 100000 in
theorem c_C_isFree (l : Launch) (dC : Nat → ClassId) (dI : Nat → Nat → Nat) (ad cd : Nat → Nat) (w wr fl : Nat → Int32) (pw sc : Int32) (lw rot vb : Nat → Int32) (rec tk : Int32) (live row : Nat → Int32) (cur ser dur wo : Int32) (bts : Nat → Int32) (us : Int32) (act : Nat → Int32) (rd rs : Int32) (pa : Nat) (hp : pa < 32) : Met l y_C_isFree w_C_isFree ({ frames := 0, cells := 0, slots := 0, locals := 0 }) (xR (dC, dI) vwCl (xt cd) (xw ad cd w wr fl pw sc lw rot vb rec tk live row cur ser dur wo bts us act rd rs) [.ref (ad 2), .int (nI pa)]) (vp_Si (fun r => (r = 1 ∧ fp w pa) ∨ (r = 0 ∧ ¬ fp w pa))) 0 0 (fun _ => False) := by
  refine Met.ofW (cc := b_C_isFree) (maxL := 4) (ret := (some (.boolean))) (by decide) rfl ?_
  intro P e s m args below meth c0 s₁ B hml hv
  obtain ⟨rfl, hP, hK⟩ := hv
  have hx := B.exec
  have hb := B.bytes
  have hr := B.returns
  have hts := atoms_spec (ws := w_C_isFree) B.pre
  have hown : s.vm.findClass R_C = some m.cls := findClass_of_methodNamed B.named
  have hlocks := B.notSynchronized
  have hl := lv_entry ([.ref (ad 2), .int (nI pa)]) (n := 4) (Nat.le_of_ble_eq_true rfl)
  rw [lg_entry_eq]
  generalize (lg_sl ([.ref (ad 2), .int (nI pa)]) ++ List.replicate (4 - (lg_sl ([.ref (ad 2), .int (nI pa)])).length) Slot.unset).toArray = ls at hl ⊢
  have hl : lv_has ls 4 [(0, .ref (ad 2)), (1, .int (nI pa))] := hl
  refine lv_iload_n hx hb d_C_isFree_0 rfl (lv_at hl 1 rfl) ?_
  refine lv_bipush (v := nI 16) hx hb d_C_isFree_1 (by decide) ?_
  refine lv_imul hx hb d_C_isFree_3 ?_
  refine tp_i (y := nI (pa * 16)) (pk_mul _ _) ?_
  refine lv_istore_n hx hb d_C_isFree_4 rfl hl (by decide) rfl (fun ls hl => ?_)
  have hl : lv_has ls 4 [(2, .int (nI (pa * 16))), (0, .ref (ad 2)), (1, .int (nI pa))] := hl
  refine lv_iload_n hx hb d_C_isFree_5 rfl (lv_at hl 0 rfl) ?_
  refine lv_istore_n hx hb d_C_isFree_6 rfl hl (by decide) rfl (fun ls hl => ?_)
  have hl : lv_has ls 4 [(3, .int (nI (pa * 16))), (2, .int (nI (pa * 16))), (0, .ref (ad 2)), (1, .int (nI pa))] := hl
  have lp7 : ∀ (n : Nat) (k : Nat) (ls : Array Slot), (16 - k) < n → (k ≤ 16) → (∀ i, i < k → w (16 * pa + i) = -1) → lv_has ls 4 [(0, .ref (ad 2)), (1, .int (nI pa)), (2, .int (nI (pa * 16))), (3, .int (nI (pa * 16 + k)))] → W P l e (headSpec w_C_isFree ({ frames := 0, cells := 0, slots := 0, locals := 0 })).room s m (([.ref (ad 2), .int (nI pa)] : List Value).toArray) below meth c0 s.heap [] 0 0 (MQ below (vp_Si (fun r => (r = 1 ∧ fp w pa) ∨ (r = 0 ∧ ¬ fp w pa))) (([.ref (ad 2), .int (nI pa)] : List Value).toArray) s 0 0 (fun _ => False)) (F0 m 7 ls []) := by
    intro n
    induction n with
    | zero => intro k ls hm; intros; omega
    | succ n ih7 =>
      intro k ls hm hk hf hl
      refine lv_iload_n hx hb d_C_isFree_7 rfl (lv_at hl 3 rfl) ?_
      refine lv_iload_n hx hb d_C_isFree_8 rfl (lv_at hl 2 rfl) ?_
      refine lv_bipush (v := nI 16) hx hb d_C_isFree_9 (by decide) ?_
      refine lv_iadd hx hb d_C_isFree_11 ?_
      refine tp_i (y := nI ((pa * 16) + 16)) (nI_add _ _) ?_
      refine lv_icmp_ge (tgt := 33) hx hb d_C_isFree_12 (by decide) (fun c12 => ?_) (fun c12 => ?_)
      ·
        have c12 := cd_ge_t (by omega) (by omega) c12
        refine lv_iconst (v := 1) hx hb d_C_isFree_33 (by decide) ?_
        exact W.zret (v := 1) hx hb hr (by first | rfl | decide | assumption) (fun t ht hW => ⟨1, rfl, Or.inl ⟨rfl, fun i hi => hf i (by omega)⟩, ht⟩) (fun q hq => by cases hq) d_C_isFree_34
      ·
        have c12 := cd_ge_f (by omega) (by omega) c12
        refine lv_aload_n hx hb d_C_isFree_15 rfl (lv_at hl 0 rfl) ?_
        refine va_get (D := (dC, dI)) (ci := 0) (v := .ref (ad 8)) (C := R_C) (T := F_C) (N := 5) hx hb hts (fun w h => List.mem_cons_of_mem _ (in_C w h)) hown hK hP 2 rfl rfl 0 (by decide) (hts (.fieldLink R_C 9 R_C "words" "[I") (List.mem_cons_of_mem _ t_34)) (fun _ h9 => h9) rfl d_C_isFree_16 ?_
        refine lv_iload_n hx hb d_C_isFree_19 rfl (lv_at hl 3 rfl) ?_
        refine va_iald hx hb hK hP 8 3 rfl rfl (vp_in_nI (by omega) (by decide)) d_C_isFree_20 ?_
        refine tp_i (y := w (pa * 16 + k)) (by rw [nI_clamp (by omega)]) ?_
        refine lv_iconst (v := (-1)) hx hb d_C_isFree_21 (by decide) ?_
        refine lv_icmp_eq (tgt := 27) hx hb d_C_isFree_22 (by decide) (fun c22 => ?_) (fun c22 => ?_)
        ·
          refine lv_iinc (k := 3) (v := nI ((pa * 16 + k) + 1)) hx hb d_C_isFree_27 hl rfl (nI_1 _) (by decide) rfl (fun ls hl => ?_)
          have hl : lv_has ls 4 [(3, .int (nI ((pa * 16 + k) + 1))), (0, .ref (ad 2)), (1, .int (nI pa)), (2, .int (nI (pa * 16)))] := hl
          refine lv_goto (tgt := 7) hx hb d_C_isFree_30 (by decide) ?_
          exact ih7 (k + 1) ls (by omega) (by omega) (lt_s hf (by rw [Nat.mul_comm 16 pa]; exact c22)) (lv_sub hl [1, 2, 3, 0] rfl)
        ·
          refine lv_iconst (v := 0) hx hb d_C_isFree_25 (by decide) ?_
          exact W.zret (v := 0) hx hb hr (by first | rfl | decide | assumption) (fun t ht hW => ⟨0, rfl, Or.inr ⟨rfl, fun h => c22 (by have := h k (by omega); rw [Nat.mul_comm 16 pa] at this; exact this)⟩, ht⟩) (fun q hq => by cases hq) d_C_isFree_26
  exact lp7 _ 0 ls (Nat.lt_succ_self _) (by omega) (fun i hi => absurd hi (Nat.not_lt_zero i)) (lv_sub hl [2, 3, 1, 0] rfl)
set_option maxHeartbeats 4000000 in
set_option maxRecDepth 100000 in
theorem c_C_isRight_f (l : Launch) (dC : Nat → ClassId) (dI : Nat → Nat → Nat) (ad cd : Nat → Nat) (w wr fl : Nat → Int32) (pw sc : Int32) (lw rot vb : Nat → Int32) (rec tk : Int32) (live row : Nat → Int32) (cur ser dur wo : Int32) (bts : Nat → Int32) (us : Int32) (act : Nat → Int32) (rd rs : Int32) (pa : Nat) (hp : pa < 32) (hw : w (16 * pa + 0) = -1) : Met l y_C_isRight w_C_isRight ({ frames := 1, cells := 0, slots := 0, locals := 22 }) (xR (dC, dI) vwCl (xt cd) (xw ad cd w wr fl pw sc lw rot vb rec tk live row cur ser dur wo bts us act rd rs) [.ref (ad 2), .int (nI pa)]) (vp_Si (fun r => r = 0)) 0 0 (fun _ => False) := by
  refine Met.ofW (cc := b_C_isRight) (maxL := 3) (ret := (some (.boolean))) (by decide) rfl ?_
  intro P e s m args below meth c0 s₁ B hml hv
  obtain ⟨rfl, hP, hK⟩ := hv
  have hx := B.exec
  have hb := B.bytes
  have hr := B.returns
  have hts := atoms_spec (ws := w_C_isRight) B.pre
  have hown : s.vm.findClass R_C = some m.cls := findClass_of_methodNamed B.named
  have hlocks := B.notSynchronized
  have hl := lv_entry ([.ref (ad 2), .int (nI pa)]) (n := 3) (Nat.le_of_ble_eq_true rfl)
  rw [lg_entry_eq]
  generalize (lg_sl ([.ref (ad 2), .int (nI pa)]) ++ List.replicate (3 - (lg_sl ([.ref (ad 2), .int (nI pa)])).length) Slot.unset).toArray = ls at hl ⊢
  have hl : lv_has ls 3 [(0, .ref (ad 2)), (1, .int (nI pa))] := hl
  refine lv_aload_n hx hb d_C_isRight_0 rfl (lv_at hl 0 rfl) ?_
  refine lv_iload_n hx hb d_C_isRight_1 rfl (lv_at hl 1 rfl) ?_
  refine lv_iconst (v := nI 0) hx hb d_C_isRight_2 (by decide) ?_
  refine vp_callSi (va_runV (C := R_C) (As := [.int (nI pa), .int (nI 0)]) (rest := []) ⟨hx, hb, hml, hown, hts⟩ (c_C_read l dC dI ad cd w wr fl pw sc lw rot vb rec tk live row cur ser dur wo bts us act rd rs pa 0 (by first | omega | rfl | assumption | decide) (by first | omega | rfl | assumption | decide)) (cwV 2 hts (g_V t_164 t_165 t_166 t_3 t_167) rfl rfl rfl (by decide +kernel) ⟨by decide, by decide⟩) (xR_v hP hK 2 rfl rfl) rfl rfl hl.1 rfl (lv_room (Nat.le_of_ble_eq_true rfl)) d_C_isRight_3 ⟨Nat.le_refl _, Nat.le_refl _⟩).run (fun r3 q3 => ?_)
  subst q3
  refine lv_istore_n hx hb d_C_isRight_6 rfl hl (by decide) rfl (fun ls hl => ?_)
  have hl : lv_has ls 3 [(2, .int (w (16 * pa + 0))), (0, .ref (ad 2)), (1, .int (nI pa))] := hl
  refine lv_iload_n hx hb d_C_isRight_7 rfl (lv_at hl 0 rfl) ?_
  refine lv_if_le (tgt := 62) hx hb d_C_isRight_8 (by decide) (fun c8 => ?_) (fun c8 => ?_)
  ·
    refine lv_iconst (v := 0) hx hb d_C_isRight_62 (by decide) ?_
    exact W.zret (v := 0) hx hb hr (by first | rfl | decide | assumption) (fun t ht hW => ⟨0, rfl, by first | rfl | trivial | omega, ht⟩) (fun q hq => by cases hq) d_C_isRight_63
  ·
    exact absurd (show (w (16 * pa + 0) : Int32) ≤ 0 by rw [hw]; decide) c8
set_option maxHeartbeats 4000000 in
set_option maxRecDepth 100000 in
theorem c_C_freePagesOf_f (l : Launch) (dC : Nat → ClassId) (dI : Nat → Nat → Nat) (ad cd : Nat → Nat) (w wr fl : Nat → Int32) (pw sc : Int32) (lw rot vb : Nat → Int32) (rec tk : Int32) (live row : Nat → Int32) (cur ser dur wo : Int32) (bts : Nat → Int32) (us : Int32) (act : Nat → Int32) (rd rs : Int32) (b : Nat) (hp : b < 8) (hw : ∀ i, i < 512 → w i = -1) : Met l y_C_freePagesOf w_C_freePagesOf ({ frames := 1, cells := 0, slots := 0, locals := 23 }) (xR (dC, dI) vwCl (xt cd) (xw ad cd w wr fl pw sc lw rot vb rec tk live row cur ser dur wo bts us act rd rs) [.ref (ad 2), .int (nI b)]) (vp_Si (fun r => r = nI 4)) 0 0 (fun _ => False) := by
  refine Met.ofW (cc := b_C_freePagesOf) (maxL := 4) (ret := (some (.int))) (by decide) rfl ?_
  intro P e s m args below meth c0 s₁ B hml hv
  obtain ⟨rfl, hP, hK⟩ := hv
  have hx := B.exec
  have hb := B.bytes
  have hr := B.returns
  have hts := atoms_spec (ws := w_C_freePagesOf) B.pre
  have hown : s.vm.findClass R_C = some m.cls := findClass_of_methodNamed B.named
  have hlocks := B.notSynchronized
  have hl := lv_entry ([.ref (ad 2), .int (nI b)]) (n := 4) (Nat.le_of_ble_eq_true rfl)
  rw [lg_entry_eq]
  generalize (lg_sl ([.ref (ad 2), .int (nI b)]) ++ List.replicate (4 - (lg_sl ([.ref (ad 2), .int (nI b)])).length) Slot.unset).toArray = ls at hl ⊢
  have hl : lv_has ls 4 [(0, .ref (ad 2)), (1, .int (nI b))] := hl
  refine lv_iconst (v := nI 0) hx hb d_C_freePagesOf_0 (by decide) ?_
  refine lv_istore_n hx hb d_C_freePagesOf_1 rfl hl (by decide) rfl (fun ls hl => ?_)
  have hl : lv_has ls 4 [(2, .int (nI 0)), (0, .ref (ad 2)), (1, .int (nI b))] := hl
  refine lv_iload_n hx hb d_C_freePagesOf_2 rfl (lv_at hl 2 rfl) ?_
  refine lv_iconst (v := nI 4) hx hb d_C_freePagesOf_3 (by decide) ?_
  refine lv_imul hx hb d_C_freePagesOf_4 ?_
  refine tp_i (y := nI (b * 4)) (pk_mul _ _) ?_
  refine lv_istore_n hx hb d_C_freePagesOf_5 rfl hl (by decide) rfl (fun ls hl => ?_)
  have hl : lv_has ls 4 [(3, .int (nI (b * 4))), (2, .int (nI 0)), (0, .ref (ad 2)), (1, .int (nI b))] := hl
  have lp6 : ∀ (n : Nat) (k : Nat) (ls : Array Slot), (4 - k) < n → (k ≤ 4) → lv_has ls 4 [(0, .ref (ad 2)), (1, .int (nI b)), (2, .int (nI k)), (3, .int (nI (b * 4 + k)))] → W P l e (headSpec w_C_freePagesOf ({ frames := 1, cells := 0, slots := 0, locals := 23 })).room s m (([.ref (ad 2), .int (nI b)] : List Value).toArray) below meth c0 s.heap [] 0 0 (MQ below (vp_Si (fun r => r = nI 4)) (([.ref (ad 2), .int (nI b)] : List Value).toArray) s 0 0 (fun _ => False)) (F0 m 6 ls []) := by
    intro n
    induction n with
    | zero => intro k ls hm; intros; omega
    | succ n ih6 =>
      intro k ls hm hk hl
      refine lv_iload_n hx hb d_C_freePagesOf_6 rfl (lv_at hl 3 rfl) ?_
      refine lv_iload_n hx hb d_C_freePagesOf_7 rfl (lv_at hl 1 rfl) ?_
      refine lv_iconst (v := nI 1) hx hb d_C_freePagesOf_8 (by decide) ?_
      refine lv_iadd hx hb d_C_freePagesOf_9 ?_
      refine tp_i (y := nI (b + 1)) (nI_add _ _) ?_
      refine lv_iconst (v := nI 4) hx hb d_C_freePagesOf_10 (by decide) ?_
      refine lv_imul hx hb d_C_freePagesOf_11 ?_
      refine tp_i (y := nI ((b + 1) * 4)) (pk_mul _ _) ?_
      refine lv_icmp_ge (tgt := 32) hx hb d_C_freePagesOf_12 (by decide) (fun c12 => ?_) (fun c12 => ?_)
      ·
        have c12 := cd_ge_t (by omega) (by omega) c12
        refine lv_iload_n hx hb d_C_freePagesOf_32 rfl (lv_at hl 2 rfl) ?_
        exact W.iret (v := nI k) hx hb hr (fun t ht hW => ⟨nI k, rfl, by rw [show k = 4 by omega], ht⟩) (fun q hq => by cases hq) d_C_freePagesOf_33
      ·
        have c12 := cd_ge_f (by omega) (by omega) c12
        refine lv_aload_n hx hb d_C_freePagesOf_15 rfl (lv_at hl 0 rfl) ?_
        refine lv_iload_n hx hb d_C_freePagesOf_16 rfl (lv_at hl 3 rfl) ?_
        refine vp_callSi (va_runV (C := R_C) (As := [.int (nI (b * 4 + k))]) (rest := []) ⟨hx, hb, hml, hown, hts⟩ (c_C_isFree l dC dI ad cd w wr fl pw sc lw rot vb rec tk live row cur ser dur wo bts us act rd rs (b * 4 + k) (by first | omega | rfl | assumption | decide)) (cwV 1 hts (g_V t_258 t_259 t_260 t_3 t_261) rfl rfl rfl (by decide +kernel) ⟨by decide, by decide⟩) (xR_v hP hK 2 rfl rfl) rfl rfl hl.1 rfl (lv_room (Nat.le_of_ble_eq_true rfl)) d_C_freePagesOf_17 ⟨Nat.le_refl _, Nat.le_refl _⟩).run (fun r17 q17 => ?_)
        obtain ⟨rfl, -⟩ : r17 = 1 ∧ fp w (b * 4 + k) := q17.resolve_right (fun z => z.2 (fun i hi => hw _ (by omega)))
        refine lv_if_eq (tgt := 26) hx hb d_C_freePagesOf_20 (by decide) (fun c20 => ?_) (fun c20 => ?_)
        ·
          exact absurd c20 (by decide)
        ·
          refine lv_iinc (k := 2) (v := nI (k + 1)) hx hb d_C_freePagesOf_23 hl rfl (nI_1 _) (by decide) rfl (fun ls hl => ?_)
          have hl : lv_has ls 4 [(2, .int (nI (k + 1))), (0, .ref (ad 2)), (1, .int (nI b)), (3, .int (nI (b * 4 + k)))] := hl
          refine lv_iinc (k := 3) (v := nI ((b * 4 + k) + 1)) hx hb d_C_freePagesOf_26 hl rfl (nI_1 _) (by decide) rfl (fun ls hl => ?_)
          have hl : lv_has ls 4 [(3, .int (nI ((b * 4 + k) + 1))), (2, .int (nI (k + 1))), (0, .ref (ad 2)), (1, .int (nI b))] := hl
          refine lv_goto (tgt := 6) hx hb d_C_freePagesOf_29 (by decide) ?_
          exact ih6 (k + 1) ls (by omega) (by omega) (lv_sub hl [2, 3, 1, 0] rfl)
  exact lp6 _ 0 ls (Nat.lt_succ_self _) (by omega) (lv_sub hl [2, 3, 1, 0] rfl)
set_option maxHeartbeats 4000000 in
set_option maxRecDepth 100000 in
theorem c_C_usableFreePages_f (l : Launch) (dC : Nat → ClassId) (dI : Nat → Nat → Nat) (ad cd : Nat → Nat) (w wr fl : Nat → Int32) (pw sc : Int32) (lw rot vb : Nat → Int32) (rec tk : Int32) (live row : Nat → Int32) (cur ser dur wo : Int32) (bts : Nat → Int32) (us : Int32) (act : Nat → Int32) (rd rs : Int32)  (hw : ∀ i, i < 512 → w i = -1) (hfl : ∀ i, i < 8 → fl i = 0) : Met l y_C_usableFreePages w_C_usableFreePages ({ frames := 2, cells := 0, slots := 0, locals := 46 }) (xR (dC, dI) vwCl (xt cd) (xw ad cd w wr fl pw sc lw rot vb rec tk live row cur ser dur wo bts us act rd rs) [.ref (ad 2)]) (vp_Si (fun r => r = nI 32)) 0 0 (fun _ => False) := by
  refine Met.ofW (cc := b_C_usableFreePages) (maxL := 3) (ret := (some (.int))) (by decide) rfl ?_
  intro P e s m args below meth c0 s₁ B hml hv
  obtain ⟨rfl, hP, hK⟩ := hv
  have hx := B.exec
  have hb := B.bytes
  have hr := B.returns
  have hts := atoms_spec (ws := w_C_usableFreePages) B.pre
  have hown : s.vm.findClass R_C = some m.cls := findClass_of_methodNamed B.named
  have hlocks := B.notSynchronized
  have hl := lv_entry ([.ref (ad 2)]) (n := 3) (Nat.le_of_ble_eq_true rfl)
  rw [lg_entry_eq]
  generalize (lg_sl ([.ref (ad 2)]) ++ List.replicate (3 - (lg_sl ([.ref (ad 2)])).length) Slot.unset).toArray = ls at hl ⊢
  have hl : lv_has ls 3 [(0, .ref (ad 2))] := hl
  refine lv_iconst (v := nI 0) hx hb d_C_usableFreePages_0 (by decide) ?_
  refine lv_istore_n hx hb d_C_usableFreePages_1 rfl hl (by decide) rfl (fun ls hl => ?_)
  have hl : lv_has ls 3 [(1, .int (nI 0)), (0, .ref (ad 2))] := hl
  refine lv_iconst (v := nI 0) hx hb d_C_usableFreePages_2 (by decide) ?_
  refine lv_istore_n hx hb d_C_usableFreePages_3 rfl hl (by decide) rfl (fun ls hl => ?_)
  have hl : lv_has ls 3 [(2, .int (nI 0)), (1, .int (nI 0)), (0, .ref (ad 2))] := hl
  have lp4 : ∀ (n : Nat) (k : Nat) (ls : Array Slot), (8 - k) < n → (k ≤ 8) → lv_has ls 3 [(0, .ref (ad 2)), (1, .int (nI (4 * k))), (2, .int (nI k))] → W P l e (headSpec w_C_usableFreePages ({ frames := 2, cells := 0, slots := 0, locals := 46 })).room s m (([.ref (ad 2)] : List Value).toArray) below meth c0 s.heap [] 0 0 (MQ below (vp_Si (fun r => r = nI 32)) (([.ref (ad 2)] : List Value).toArray) s 0 0 (fun _ => False)) (F0 m 4 ls []) := by
    intro n
    induction n with
    | zero => intro k ls hm; intros; omega
    | succ n ih4 =>
      intro k ls hm hk hl
      refine lv_iload_n hx hb d_C_usableFreePages_4 rfl (lv_at hl 2 rfl) ?_
      refine lv_bipush (v := nI 8) hx hb d_C_usableFreePages_5 (by decide) ?_
      refine lv_icmp_ge (tgt := 33) hx hb d_C_usableFreePages_7 (by decide) (fun c7 => ?_) (fun c7 => ?_)
      ·
        have c7 := cd_ge_t (by omega) (by omega) c7
        refine lv_iload_n hx hb d_C_usableFreePages_33 rfl (lv_at hl 1 rfl) ?_
        exact W.iret (v := nI (4 * k)) hx hb hr (fun t ht hW => ⟨nI (4 * k), rfl, by rw [show k = 8 by omega], ht⟩) (fun q hq => by cases hq) d_C_usableFreePages_34
      ·
        have c7 := cd_ge_f (by omega) (by omega) c7
        refine lv_aload_n hx hb d_C_usableFreePages_10 rfl (lv_at hl 0 rfl) ?_
        refine va_get (D := (dC, dI)) (ci := 0) (v := .ref (ad 10)) (C := R_C) (T := F_C) (N := 5) hx hb hts (fun w h => List.mem_cons_of_mem _ (in_C w h)) hown hK hP 2 rfl rfl 2 (by decide) (hts (.fieldLink R_C 18 R_C "failed" "[Z") (List.mem_cons_of_mem _ t_36)) (fun _ h9 => h9) rfl d_C_usableFreePages_11 ?_
        refine lv_iload_n hx hb d_C_usableFreePages_14 rfl (lv_at hl 2 rfl) ?_
        refine va_zald hx hb hK hP 10 5 rfl rfl (vp_in_nI (by omega) (by decide)) d_C_usableFreePages_15 ?_
        refine tp_i (y := fl k) (by rw [nI_clamp (by omega)]) ?_
        refine lv_if_ne (tgt := 27) hx hb d_C_usableFreePages_16 (by decide) (fun c16 => ?_) (fun c16 => ?_)
        ·
          exact absurd (hfl k (by omega)) c16
        ·
          refine lv_iload_n hx hb d_C_usableFreePages_19 rfl (lv_at hl 1 rfl) ?_
          refine lv_aload_n hx hb d_C_usableFreePages_20 rfl (lv_at hl 0 rfl) ?_
          refine lv_iload_n hx hb d_C_usableFreePages_21 rfl (lv_at hl 2 rfl) ?_
          refine vp_callSi (va_runV (C := R_C) (As := [.int (nI k)]) (rest := [.int (nI (4 * k))]) ⟨hx, hb, hml, hown, hts⟩ (c_C_freePagesOf_f l dC dI ad cd w wr fl pw sc lw rot vb rec tk live row cur ser dur wo bts us act rd rs k (by omega) (hw)) (cwV 1 hts (g_V t_254 t_255 t_256 t_3 t_257) rfl rfl rfl (by decide +kernel) ⟨by decide, by decide⟩) (xR_v hP hK 2 rfl rfl) rfl rfl hl.1 rfl (lv_room (Nat.le_of_ble_eq_true rfl)) d_C_usableFreePages_22 ⟨Nat.le_refl _, Nat.le_refl _⟩).run (fun r22 q22 => ?_)
          subst q22
          refine lv_iadd hx hb d_C_usableFreePages_25 ?_
          refine tp_i (y := nI ((4 * k) + 4)) (nI_add _ _) ?_
          refine lv_istore_n hx hb d_C_usableFreePages_26 rfl hl (by decide) rfl (fun ls hl => ?_)
          have hl : lv_has ls 3 [(1, .int (nI ((4 * k) + 4))), (0, .ref (ad 2)), (2, .int (nI k))] := hl
          refine lv_iinc (k := 2) (v := nI (k + 1)) hx hb d_C_usableFreePages_27 hl rfl (nI_1 _) (by decide) rfl (fun ls hl => ?_)
          have hl : lv_has ls 3 [(2, .int (nI (k + 1))), (1, .int (nI ((4 * k) + 4))), (0, .ref (ad 2))] := hl
          refine lv_goto (tgt := 4) hx hb d_C_usableFreePages_30 (by decide) ?_
          exact ih4 (k + 1) ls (by omega) (by omega) (lv_sub hl [2, 1, 0] rfl)
  exact lp4 _ 0 ls (Nat.lt_succ_self _) (by omega) (lv_sub hl [2, 1, 0] rfl)
set_option maxHeartbeats 4000000 in
set_option maxRecDepth 100000 in
theorem c_C_turnOff (l : Launch) (dC : Nat → ClassId) (dI : Nat → Nat → Nat) (ad cd : Nat → Nat) (sz : Nat) (w wr fl : Nat → Int32) (pw sc : Int32) (lw rot vb : Nat → Int32) (rec tk : Int32) (live row : Nat → Int32) (cur ser dur wo : Int32) (bts : Nat → Int32) (us : Int32) (act : Nat → Int32) (rd rs : Int32)  : Met l y_C_turnOff w_C_turnOff ({ frames := 0, cells := 0, slots := 0, locals := 0 }) (xP (dC, dI) vwCl (xt cd) (xw ad cd w wr fl pw sc lw rot vb rec tk live row cur ser dur wo bts us act rd rs) sz [.ref (ad 2)]) (va_Qv (fun (u : Unit) => True) (fun (u : Unit) (t : State) => xB (dC, dI) vwCl (xt cd) (xA 15 ad sz) (xw ad cd w wr fl (nI 0) (-1) lw rot vb rec tk live row cur ser dur wo bts us act rd rs) t) (xA 15 ad sz)) 0 0 (xA 15 ad sz) := by
  refine Met.ofW (cc := b_C_turnOff) (maxL := 1) (ret := none) (by decide) rfl ?_
  intro P e s m args below meth c0 s₁ B hml hv
  obtain ⟨rfl, hsz, hP, hK, hD0⟩ := hv
  have hx := B.exec
  have hb := B.bytes
  have hr := B.returns
  have hts := atoms_spec (ws := w_C_turnOff) B.pre
  have hown : s.vm.findClass R_C = some m.cls := findClass_of_methodNamed B.named
  have hlocks := B.notSynchronized
  subst hsz
  have hD := xw_D (sz := s.heap.size) hD0
  have hS : va_S (xA 15 ad s.heap.size) s.heap s.heap [] := va_S.rf
  have hA : ∀ q : Nat, s.heap.size ≤ q → (xA 15 ad s.heap.size) q := fun q h => Or.inr h
  have hl := lv_entry ([.ref (ad 2)]) (n := 1) (Nat.le_of_ble_eq_true rfl)
  rw [lg_entry_eq]
  generalize (lg_sl ([.ref (ad 2)]) ++ List.replicate (1 - (lg_sl ([.ref (ad 2)])).length) Slot.unset).toArray = ls at hl ⊢
  have hl : lv_has ls 1 [(0, .ref (ad 2))] := hl
  refine lv_aload_n hx hb d_C_turnOff_0 rfl (lv_at hl 0 rfl) ?_
  refine lv_iconst (v := nI 0) hx hb d_C_turnOff_1 (by decide) ?_
  refine va_put (D := (dC, dI)) (ci := 0) (v := .int (nI 0)) (ty := .boolean) (C := R_C) (T := F_C) (N := 5) hx hb hts (fun w h => List.mem_cons_of_mem _ (in_C w h)) t_C ok_C nm_C hown hK hP hD hS 2 rfl rfl 3 (by decide) (hts (.fieldLink R_C 22 R_C "powered" "Z") (List.mem_cons_of_mem _ t_37)) (fun _ h9 => h9) rfl (by decide +kernel) (by first | rfl | decide | assumption) rfl (Nat.le_of_ble_eq_true rfl) d_C_turnOff_2 (fun H locs hP hD hS => ?_)
  have hP : va_P (dC, dI) vwCl (xw ad cd w wr fl (nI 0) sc lw rot vb rec tk live row cur ser dur wo bts us act rd rs) H := hP
  have hD : va_D (xA 15 ad s.heap.size) (xw ad cd w wr fl (nI 0) sc lw rot vb rec tk live row cur ser dur wo bts us act rd rs) := hD
  refine lv_aload_n hx hb d_C_turnOff_5 rfl (lv_at hl 0 rfl) ?_
  refine lv_iconst (v := (-1)) hx hb d_C_turnOff_6 (by decide) ?_
  refine va_put (D := (dC, dI)) (ci := 0) (v := .int (-1)) (ty := .int) (C := R_C) (T := F_C) (N := 5) hx hb hts (fun w h => List.mem_cons_of_mem _ (in_C w h)) t_C ok_C nm_C hown hK hP hD hS 2 rfl rfl 4 (by decide) (hts (.fieldLink R_C 26 R_C "stepsToCut" "I") (List.mem_cons_of_mem _ t_38)) (fun _ h9 => h9) rfl (by decide +kernel) rfl rfl (Nat.le_of_ble_eq_true rfl) d_C_turnOff_7 (fun H locs hP hD hS => ?_)
  have hP : va_P (dC, dI) vwCl (xw ad cd w wr fl (nI 0) (-1) lw rot vb rec tk live row cur ser dur wo bts us act rd rs) H := hP
  have hD : va_D (xA 15 ad s.heap.size) (xw ad cd w wr fl (nI 0) (-1) lw rot vb rec tk live row cur ser dur wo bts us act rd rs) := hD
  exact W.vret hx hb hr (fun t ht hW => ⟨⟨(), rfl, by first | rfl | trivial | omega, ⟨by rw [ht]; exact hP, va_K.moved hW.alike hK, hD⟩⟩, hS.F ht⟩) hS.2.2 d_C_turnOff_10
set_option maxHeartbeats 4000000 in
set_option maxRecDepth 100000 in
theorem c_C_turnOn (l : Launch) (dC : Nat → ClassId) (dI : Nat → Nat → Nat) (ad cd : Nat → Nat) (sz : Nat) (w wr fl : Nat → Int32) (pw sc : Int32) (lw rot vb : Nat → Int32) (rec tk : Int32) (live row : Nat → Int32) (cur ser dur wo : Int32) (bts : Nat → Int32) (us : Int32) (act : Nat → Int32) (rd rs : Int32)  : Met l y_C_turnOn w_C_turnOn ({ frames := 0, cells := 0, slots := 0, locals := 0 }) (xP (dC, dI) vwCl (xt cd) (xw ad cd w wr fl pw sc lw rot vb rec tk live row cur ser dur wo bts us act rd rs) sz [.ref (ad 2)]) (va_Qv (fun (u : Unit) => True) (fun (u : Unit) (t : State) => xB (dC, dI) vwCl (xt cd) (xA 15 ad sz) (xw ad cd w wr fl (nI 1) sc lw rot vb rec tk live row cur ser dur wo bts us act rd rs) t) (xA 15 ad sz)) 0 0 (xA 15 ad sz) := by
  refine Met.ofW (cc := b_C_turnOn) (maxL := 1) (ret := none) (by decide) rfl ?_
  intro P e s m args below meth c0 s₁ B hml hv
  obtain ⟨rfl, hsz, hP, hK, hD0⟩ := hv
  have hx := B.exec
  have hb := B.bytes
  have hr := B.returns
  have hts := atoms_spec (ws := w_C_turnOn) B.pre
  have hown : s.vm.findClass R_C = some m.cls := findClass_of_methodNamed B.named
  have hlocks := B.notSynchronized
  subst hsz
  have hD := xw_D (sz := s.heap.size) hD0
  have hS : va_S (xA 15 ad s.heap.size) s.heap s.heap [] := va_S.rf
  have hA : ∀ q : Nat, s.heap.size ≤ q → (xA 15 ad s.heap.size) q := fun q h => Or.inr h
  have hl := lv_entry ([.ref (ad 2)]) (n := 1) (Nat.le_of_ble_eq_true rfl)
  rw [lg_entry_eq]
  generalize (lg_sl ([.ref (ad 2)]) ++ List.replicate (1 - (lg_sl ([.ref (ad 2)])).length) Slot.unset).toArray = ls at hl ⊢
  have hl : lv_has ls 1 [(0, .ref (ad 2))] := hl
  refine lv_aload_n hx hb d_C_turnOn_0 rfl (lv_at hl 0 rfl) ?_
  refine lv_iconst (v := nI 1) hx hb d_C_turnOn_1 (by decide) ?_
  refine va_put (D := (dC, dI)) (ci := 0) (v := .int (nI 1)) (ty := .boolean) (C := R_C) (T := F_C) (N := 5) hx hb hts (fun w h => List.mem_cons_of_mem _ (in_C w h)) t_C ok_C nm_C hown hK hP hD hS 2 rfl rfl 3 (by decide) (hts (.fieldLink R_C 22 R_C "powered" "Z") (List.mem_cons_of_mem _ t_37)) (fun _ h9 => h9) rfl (by decide +kernel) (by first | rfl | decide | assumption) rfl (Nat.le_of_ble_eq_true rfl) d_C_turnOn_2 (fun H locs hP hD hS => ?_)
  have hP : va_P (dC, dI) vwCl (xw ad cd w wr fl (nI 1) sc lw rot vb rec tk live row cur ser dur wo bts us act rd rs) H := hP
  have hD : va_D (xA 15 ad s.heap.size) (xw ad cd w wr fl (nI 1) sc lw rot vb rec tk live row cur ser dur wo bts us act rd rs) := hD
  exact W.vret hx hb hr (fun t ht hW => ⟨⟨(), rfl, by first | rfl | trivial | omega, ⟨by rw [ht]; exact hP, va_K.moved hW.alike hK, hD⟩⟩, hS.F ht⟩) hS.2.2 d_C_turnOn_5
set_option maxHeartbeats 4000000 in
set_option maxRecDepth 100000 in
theorem c_C_tellCut (l : Launch) (dC : Nat → ClassId) (dI : Nat → Nat → Nat) (ad cd : Nat → Nat) (sz : Nat) (w wr fl : Nat → Int32) (pw sc : Int32) (lw rot vb : Nat → Int32) (rec tk : Int32) (live row : Nat → Int32) (cur ser dur wo : Int32) (bts : Nat → Int32) (us : Int32) (act : Nat → Int32) (rd rs : Int32) (n : Int32) : Met l y_C_tellCut w_C_tellCut ({ frames := 0, cells := 0, slots := 0, locals := 0 }) (xP (dC, dI) vwCl (xt cd) (xw ad cd w wr fl pw sc lw rot vb rec tk live row cur ser dur wo bts us act rd rs) sz [.ref (ad 2), .int n]) (va_Qv (fun (u : Unit) => True) (fun (u : Unit) (t : State) => xB (dC, dI) vwCl (xt cd) (xA 15 ad sz) (xw ad cd w wr fl pw n lw rot vb rec tk live row cur ser dur wo bts us act rd rs) t) (xA 15 ad sz)) 0 0 (xA 15 ad sz) := by
  refine Met.ofW (cc := b_C_tellCut) (maxL := 2) (ret := none) (by decide) rfl ?_
  intro P e s m args below meth c0 s₁ B hml hv
  obtain ⟨rfl, hsz, hP, hK, hD0⟩ := hv
  have hx := B.exec
  have hb := B.bytes
  have hr := B.returns
  have hts := atoms_spec (ws := w_C_tellCut) B.pre
  have hown : s.vm.findClass R_C = some m.cls := findClass_of_methodNamed B.named
  have hlocks := B.notSynchronized
  subst hsz
  have hD := xw_D (sz := s.heap.size) hD0
  have hS : va_S (xA 15 ad s.heap.size) s.heap s.heap [] := va_S.rf
  have hA : ∀ q : Nat, s.heap.size ≤ q → (xA 15 ad s.heap.size) q := fun q h => Or.inr h
  have hl := lv_entry ([.ref (ad 2), .int n]) (n := 2) (Nat.le_of_ble_eq_true rfl)
  rw [lg_entry_eq]
  generalize (lg_sl ([.ref (ad 2), .int n]) ++ List.replicate (2 - (lg_sl ([.ref (ad 2), .int n])).length) Slot.unset).toArray = ls at hl ⊢
  have hl : lv_has ls 2 [(0, .ref (ad 2)), (1, .int n)] := hl
  refine lv_aload_n hx hb d_C_tellCut_0 rfl (lv_at hl 0 rfl) ?_
  refine lv_iload_n hx hb d_C_tellCut_1 rfl (lv_at hl 1 rfl) ?_
  refine va_put (D := (dC, dI)) (ci := 0) (v := .int n) (ty := .int) (C := R_C) (T := F_C) (N := 5) hx hb hts (fun w h => List.mem_cons_of_mem _ (in_C w h)) t_C ok_C nm_C hown hK hP hD hS 2 rfl rfl 4 (by decide) (hts (.fieldLink R_C 26 R_C "stepsToCut" "I") (List.mem_cons_of_mem _ t_38)) (fun _ h9 => h9) rfl (by decide +kernel) rfl rfl (Nat.le_of_ble_eq_true rfl) d_C_tellCut_2 (fun H locs hP hD hS => ?_)
  have hP : va_P (dC, dI) vwCl (xw ad cd w wr fl pw n lw rot vb rec tk live row cur ser dur wo bts us act rd rs) H := hP
  have hD : va_D (xA 15 ad s.heap.size) (xw ad cd w wr fl pw n lw rot vb rec tk live row cur ser dur wo bts us act rd rs) := hD
  exact W.vret hx hb hr (fun t ht hW => ⟨⟨(), rfl, by first | rfl | trivial | omega, ⟨by rw [ht]; exact hP, va_K.moved hW.alike hK, hD⟩⟩, hS.F ht⟩) hS.2.2 d_C_tellCut_5
set_option maxHeartbeats 4000000 in
set_option maxRecDepth 100000 in
theorem c_C_flip (l : Launch) (dC : Nat → ClassId) (dI : Nat → Nat → Nat) (ad cd : Nat → Nat) (sz : Nat) (w wr fl : Nat → Int32) (pw sc : Int32) (lw rot vb : Nat → Int32) (rec tk : Int32) (live row : Nat → Int32) (cur ser dur wo : Int32) (bts : Nat → Int32) (us : Int32) (act : Nat → Int32) (rd rs : Int32) (pa k : Nat) (mask : Int32) (hp : pa < 32) (hk : k < 16) : Met l y_C_flip w_C_flip ({ frames := 0, cells := 0, slots := 0, locals := 0 }) (xP (dC, dI) vwCl (xt cd) (xw ad cd w wr fl pw sc lw rot vb rec tk live row cur ser dur wo bts us act rd rs) sz [.ref (ad 2), .int (nI pa), .int (nI k), .int mask]) (va_Qv (fun (u : Unit) => True) (fun (u : Unit) (t : State) => xB (dC, dI) vwCl (xt cd) (xA 15 ad sz) (xw ad cd (upd w (pa * 16 + k) (w (pa * 16 + k) ^^^ mask)) wr fl pw sc lw rot vb rec tk live row cur ser dur wo bts us act rd rs) t) (xA 15 ad sz)) 0 0 (xA 15 ad sz) := by
  refine Met.ofW (cc := b_C_flip) (maxL := 4) (ret := none) (by decide) rfl ?_
  intro P e s m args below meth c0 s₁ B hml hv
  obtain ⟨rfl, hsz, hP, hK, hD0⟩ := hv
  have hx := B.exec
  have hb := B.bytes
  have hr := B.returns
  have hts := atoms_spec (ws := w_C_flip) B.pre
  have hown : s.vm.findClass R_C = some m.cls := findClass_of_methodNamed B.named
  have hlocks := B.notSynchronized
  subst hsz
  have hD := xw_D (sz := s.heap.size) hD0
  have hS : va_S (xA 15 ad s.heap.size) s.heap s.heap [] := va_S.rf
  have hA : ∀ q : Nat, s.heap.size ≤ q → (xA 15 ad s.heap.size) q := fun q h => Or.inr h
  have hl := lv_entry ([.ref (ad 2), .int (nI pa), .int (nI k), .int mask]) (n := 4) (Nat.le_of_ble_eq_true rfl)
  rw [lg_entry_eq]
  generalize (lg_sl ([.ref (ad 2), .int (nI pa), .int (nI k), .int mask]) ++ List.replicate (4 - (lg_sl ([.ref (ad 2), .int (nI pa), .int (nI k), .int mask])).length) Slot.unset).toArray = ls at hl ⊢
  have hl : lv_has ls 4 [(0, .ref (ad 2)), (1, .int (nI pa)), (2, .int (nI k)), (3, .int mask)] := hl
  refine lv_aload_n hx hb d_C_flip_0 rfl (lv_at hl 0 rfl) ?_
  refine va_get (D := (dC, dI)) (ci := 0) (v := .ref (ad 8)) (C := R_C) (T := F_C) (N := 5) hx hb hts (fun w h => List.mem_cons_of_mem _ (in_C w h)) hown hK hP 2 rfl rfl 0 (by decide) (hts (.fieldLink R_C 9 R_C "words" "[I") (List.mem_cons_of_mem _ t_34)) (fun _ h9 => h9) rfl d_C_flip_1 ?_
  refine lv_iload_n hx hb d_C_flip_4 rfl (lv_at hl 1 rfl) ?_
  refine lv_bipush (v := nI 16) hx hb d_C_flip_5 (by decide) ?_
  refine lv_imul hx hb d_C_flip_7 ?_
  refine tp_i (y := nI (pa * 16)) (pk_mul _ _) ?_
  refine lv_iload_n hx hb d_C_flip_8 rfl (lv_at hl 2 rfl) ?_
  refine lv_iadd hx hb d_C_flip_9 ?_
  refine tp_i (y := nI ((pa * 16) + k)) (nI_add _ _) ?_
  refine lv_dup2_11 hx hb d_C_flip_10 rfl rfl ?_
  refine va_iald hx hb hK hP 8 3 rfl rfl (vp_in_nI (by omega) (by decide)) d_C_flip_11 ?_
  refine tp_i (y := w ((pa * 16) + k)) (by rw [nI_clamp (by omega)]) ?_
  refine lv_iload_n hx hb d_C_flip_12 rfl (lv_at hl 3 rfl) ?_
  refine lv_ixor hx hb d_C_flip_13 ?_
  refine va_iast hx hb hK hP hD hS 8 3 rfl rfl (vp_in_nI (by omega) (by decide)) d_C_flip_14 (fun H locs hP hD hS => ?_)
  rw [nI_clamp (by omega)] at hP hD
  have hP : va_P (dC, dI) vwCl (xw ad cd (upd w ((pa * 16) + k) ((w ((pa * 16) + k)) ^^^ mask)) wr fl pw sc lw rot vb rec tk live row cur ser dur wo bts us act rd rs) H := hP
  have hD : va_D (xA 15 ad s.heap.size) (xw ad cd (upd w ((pa * 16) + k) ((w ((pa * 16) + k)) ^^^ mask)) wr fl pw sc lw rot vb rec tk live row cur ser dur wo bts us act rd rs) := hD
  exact W.vret hx hb hr (fun t ht hW => ⟨⟨(), rfl, by first | rfl | trivial | omega, ⟨by rw [ht]; exact hP, va_K.moved hW.alike hK, hD⟩⟩, hS.F ht⟩) hS.2.2 d_C_flip_15
set_option maxHeartbeats 4000000 in
set_option maxRecDepth 100000 in
theorem c_C_markFailed (l : Launch) (dC : Nat → ClassId) (dI : Nat → Nat → Nat) (ad cd : Nat → Nat) (sz : Nat) (w wr fl : Nat → Int32) (pw sc : Int32) (lw rot vb : Nat → Int32) (rec tk : Int32) (live row : Nat → Int32) (cur ser dur wo : Int32) (bts : Nat → Int32) (us : Int32) (act : Nat → Int32) (rd rs : Int32) (b : Nat) (hp : b < 8) : Met l y_C_markFailed w_C_markFailed ({ frames := 0, cells := 0, slots := 0, locals := 0 }) (xP (dC, dI) vwCl (xt cd) (xw ad cd w wr fl pw sc lw rot vb rec tk live row cur ser dur wo bts us act rd rs) sz [.ref (ad 2), .int (nI b)]) (va_Qv (fun (u : Unit) => True) (fun (u : Unit) (t : State) => xB (dC, dI) vwCl (xt cd) (xA 15 ad sz) (xw ad cd w wr (upd fl b (vp_nar .boolean (nI 1))) pw sc lw rot vb rec tk live row cur ser dur wo bts us act rd rs) t) (xA 15 ad sz)) 0 0 (xA 15 ad sz) := by
  refine Met.ofW (cc := b_C_markFailed) (maxL := 2) (ret := none) (by decide) rfl ?_
  intro P e s m args below meth c0 s₁ B hml hv
  obtain ⟨rfl, hsz, hP, hK, hD0⟩ := hv
  have hx := B.exec
  have hb := B.bytes
  have hr := B.returns
  have hts := atoms_spec (ws := w_C_markFailed) B.pre
  have hown : s.vm.findClass R_C = some m.cls := findClass_of_methodNamed B.named
  have hlocks := B.notSynchronized
  subst hsz
  have hD := xw_D (sz := s.heap.size) hD0
  have hS : va_S (xA 15 ad s.heap.size) s.heap s.heap [] := va_S.rf
  have hA : ∀ q : Nat, s.heap.size ≤ q → (xA 15 ad s.heap.size) q := fun q h => Or.inr h
  have hl := lv_entry ([.ref (ad 2), .int (nI b)]) (n := 2) (Nat.le_of_ble_eq_true rfl)
  rw [lg_entry_eq]
  generalize (lg_sl ([.ref (ad 2), .int (nI b)]) ++ List.replicate (2 - (lg_sl ([.ref (ad 2), .int (nI b)])).length) Slot.unset).toArray = ls at hl ⊢
  have hl : lv_has ls 2 [(0, .ref (ad 2)), (1, .int (nI b))] := hl
  refine lv_aload_n hx hb d_C_markFailed_0 rfl (lv_at hl 0 rfl) ?_
  refine va_get (D := (dC, dI)) (ci := 0) (v := .ref (ad 10)) (C := R_C) (T := F_C) (N := 5) hx hb hts (fun w h => List.mem_cons_of_mem _ (in_C w h)) hown hK hP 2 rfl rfl 2 (by decide) (hts (.fieldLink R_C 18 R_C "failed" "[Z") (List.mem_cons_of_mem _ t_36)) (fun _ h9 => h9) rfl d_C_markFailed_1 ?_
  refine lv_iload_n hx hb d_C_markFailed_4 rfl (lv_at hl 1 rfl) ?_
  refine lv_iconst (v := nI 1) hx hb d_C_markFailed_5 (by decide) ?_
  refine va_zast hx hb hK hP hD hS 10 5 rfl rfl (vp_in_nI (by omega) (by decide)) d_C_markFailed_6 (fun H locs hP hD hS => ?_)
  rw [nI_clamp (by omega)] at hP hD
  have hP : va_P (dC, dI) vwCl (xw ad cd w wr (upd fl b (vp_nar .boolean (nI 1))) pw sc lw rot vb rec tk live row cur ser dur wo bts us act rd rs) H := hP
  have hD : va_D (xA 15 ad s.heap.size) (xw ad cd w wr (upd fl b (vp_nar .boolean (nI 1))) pw sc lw rot vb rec tk live row cur ser dur wo bts us act rd rs) := hD
  exact W.vret hx hb hr (fun t ht hW => ⟨⟨(), rfl, by first | rfl | trivial | omega, ⟨by rw [ht]; exact hP, va_K.moved hW.alike hK, hD⟩⟩, hS.F ht⟩) hS.2.2 d_C_markFailed_7
end
section
set_option maxHeartbeats 4000000 in
set_option maxRecDepth 100000 in
theorem c_G_recordCount (l : Launch) (dC : Nat → ClassId) (dI : Nat → Nat → Nat) (ad cd : Nat → Nat) (w wr fl : Nat → Int32) (pw sc : Int32) (lw rot vb : Nat → Int32) (rec tk : Int32) (live row : Nat → Int32) (cur ser dur wo : Int32) (bts : Nat → Int32) (us : Int32) (act : Nat → Int32) (rd rs : Int32)  : Met l y_G_recordCount w_G_recordCount ({ frames := 0, cells := 0, slots := 0, locals := 0 }) (xR (dC, dI) vwCl (xt cd) (xw ad cd w wr fl pw sc lw rot vb rec tk live row cur ser dur wo bts us act rd rs) [.ref (ad 3)]) (vp_Si (fun r => r = rec)) 0 0 (fun _ => False) := by
  refine Met.ofW (cc := b_G_recordCount) (maxL := 1) (ret := (some (.int))) (by decide) rfl ?_
  intro P e s m args below meth c0 s₁ B hml hv
  obtain ⟨rfl, hP, hK⟩ := hv
  have hx := B.exec
  have hb := B.bytes
  have hr := B.returns
  have hts := atoms_spec (ws := w_G_recordCount) B.pre
  have hown : s.vm.findClass R_G = some m.cls := findClass_of_methodNamed B.named
  have hlocks := B.notSynchronized
  have hl := lv_entry ([.ref (ad 3)]) (n := 1) (Nat.le_of_ble_eq_true rfl)
  rw [lg_entry_eq]
  generalize (lg_sl ([.ref (ad 3)]) ++ List.replicate (1 - (lg_sl ([.ref (ad 3)])).length) Slot.unset).toArray = ls at hl ⊢
  have hl : lv_has ls 1 [(0, .ref (ad 3))] := hl
  refine lv_aload_n hx hb d_G_recordCount_0 rfl (lv_at hl 0 rfl) ?_
  refine va_get (D := (dC, dI)) (ci := 2) (v := .int rec) (C := R_G) (T := F_G) (N := 5) hx hb hts (fun w h => List.mem_cons_of_mem _ (in_G w h)) hown hK hP 3 rfl rfl 3 (by decide) (hts (.fieldLink R_G 21 R_G "records" "I") (List.mem_cons_of_mem _ t_87)) (fun _ h9 => h9) rfl d_G_recordCount_1 ?_
  exact W.iret (v := rec) hx hb hr (fun t ht hW => ⟨rec, rfl, by first | rfl | trivial | omega, ht⟩) (fun q hq => by cases hq) d_G_recordCount_4
set_option maxHeartbeats 4000000 in
set_option maxRecDepth 100000 in
theorem c_G_ticketCount (l : Launch) (dC : Nat → ClassId) (dI : Nat → Nat → Nat) (ad cd : Nat → Nat) (w wr fl : Nat → Int32) (pw sc : Int32) (lw rot vb : Nat → Int32) (rec tk : Int32) (live row : Nat → Int32) (cur ser dur wo : Int32) (bts : Nat → Int32) (us : Int32) (act : Nat → Int32) (rd rs : Int32)  : Met l y_G_ticketCount w_G_ticketCount ({ frames := 0, cells := 0, slots := 0, locals := 0 }) (xR (dC, dI) vwCl (xt cd) (xw ad cd w wr fl pw sc lw rot vb rec tk live row cur ser dur wo bts us act rd rs) [.ref (ad 3)]) (vp_Si (fun r => r = tk)) 0 0 (fun _ => False) := by
  refine Met.ofW (cc := b_G_ticketCount) (maxL := 1) (ret := (some (.int))) (by decide) rfl ?_
  intro P e s m args below meth c0 s₁ B hml hv
  obtain ⟨rfl, hP, hK⟩ := hv
  have hx := B.exec
  have hb := B.bytes
  have hr := B.returns
  have hts := atoms_spec (ws := w_G_ticketCount) B.pre
  have hown : s.vm.findClass R_G = some m.cls := findClass_of_methodNamed B.named
  have hlocks := B.notSynchronized
  have hl := lv_entry ([.ref (ad 3)]) (n := 1) (Nat.le_of_ble_eq_true rfl)
  rw [lg_entry_eq]
  generalize (lg_sl ([.ref (ad 3)]) ++ List.replicate (1 - (lg_sl ([.ref (ad 3)])).length) Slot.unset).toArray = ls at hl ⊢
  have hl : lv_has ls 1 [(0, .ref (ad 3))] := hl
  refine lv_aload_n hx hb d_G_ticketCount_0 rfl (lv_at hl 0 rfl) ?_
  refine va_get (D := (dC, dI)) (ci := 2) (v := .int tk) (C := R_G) (T := F_G) (N := 5) hx hb hts (fun w h => List.mem_cons_of_mem _ (in_G w h)) hown hK hP 3 rfl rfl 4 (by decide) (hts (.fieldLink R_G 25 R_G "tickets" "I") (List.mem_cons_of_mem _ t_88)) (fun _ h9 => h9) rfl d_G_ticketCount_1 ?_
  exact W.iret (v := tk) hx hb hr (fun t ht hW => ⟨tk, rfl, by first | rfl | trivial | omega, ht⟩) (fun q hq => by cases hq) d_G_ticketCount_4
set_option maxHeartbeats 4000000 in
set_option maxRecDepth 100000 in
theorem c_G_hasTicket (l : Launch) (dC : Nat → ClassId) (dI : Nat → Nat → Nat) (ad cd : Nat → Nat) (w wr fl : Nat → Int32) (pw sc : Int32) (lw rot vb : Nat → Int32) (rec tk : Int32) (live row : Nat → Int32) (cur ser dur wo : Int32) (bts : Nat → Int32) (us : Int32) (act : Nat → Int32) (rd rs : Int32) (n : Int32) : Met l y_G_hasTicket w_G_hasTicket ({ frames := 0, cells := 0, slots := 0, locals := 0 }) (xR (dC, dI) vwCl (xt cd) (xw ad cd w wr fl pw sc lw rot vb rec tk live row cur ser dur wo bts us act rd rs) [.ref (ad 3), .int n]) (vp_Si (fun r => (r = 1 ∧ (1 ≤ n ∧ n ≤ tk)) ∨ (r = 0 ∧ ¬ (1 ≤ n ∧ n ≤ tk)))) 0 0 (fun _ => False) := by
  refine Met.ofW (cc := b_G_hasTicket) (maxL := 2) (ret := (some (.boolean))) (by decide) rfl ?_
  intro P e s m args below meth c0 s₁ B hml hv
  obtain ⟨rfl, hP, hK⟩ := hv
  have hx := B.exec
  have hb := B.bytes
  have hr := B.returns
  have hts := atoms_spec (ws := w_G_hasTicket) B.pre
  have hown : s.vm.findClass R_G = some m.cls := findClass_of_methodNamed B.named
  have hlocks := B.notSynchronized
  have hl := lv_entry ([.ref (ad 3), .int n]) (n := 2) (Nat.le_of_ble_eq_true rfl)
  rw [lg_entry_eq]
  generalize (lg_sl ([.ref (ad 3), .int n]) ++ List.replicate (2 - (lg_sl ([.ref (ad 3), .int n])).length) Slot.unset).toArray = ls at hl ⊢
  have hl : lv_has ls 2 [(0, .ref (ad 3)), (1, .int n)] := hl
  refine lv_iload_n hx hb d_G_hasTicket_0 rfl (lv_at hl 1 rfl) ?_
  refine lv_iconst (v := 1) hx hb d_G_hasTicket_1 (by decide) ?_
  refine lv_icmp_lt (tgt := 17) hx hb d_G_hasTicket_2 (by decide) (fun c2 => ?_) (fun c2 => ?_)
  ·
    refine lv_iconst (v := 0) hx hb d_G_hasTicket_17 (by decide) ?_
    exact W.zret (v := 0) hx hb hr (by first | rfl | decide | assumption) (fun t ht hW => ⟨0, rfl, Or.inr ⟨rfl, fun z => by first | exact absurd z.1 (Int32.not_le.mpr c2) | exact absurd z.2 (Int32.not_le.mpr c10)⟩, ht⟩) (fun q hq => by cases hq) d_G_hasTicket_18
  ·
    refine lv_iload_n hx hb d_G_hasTicket_5 rfl (lv_at hl 1 rfl) ?_
    refine lv_aload_n hx hb d_G_hasTicket_6 rfl (lv_at hl 0 rfl) ?_
    refine va_get (D := (dC, dI)) (ci := 2) (v := .int tk) (C := R_G) (T := F_G) (N := 5) hx hb hts (fun w h => List.mem_cons_of_mem _ (in_G w h)) hown hK hP 3 rfl rfl 4 (by decide) (hts (.fieldLink R_G 25 R_G "tickets" "I") (List.mem_cons_of_mem _ t_88)) (fun _ h9 => h9) rfl d_G_hasTicket_7 ?_
    refine lv_icmp_gt (tgt := 17) hx hb d_G_hasTicket_10 (by decide) (fun c10 => ?_) (fun c10 => ?_)
    ·
      refine lv_iconst (v := 0) hx hb d_G_hasTicket_17 (by decide) ?_
      exact W.zret (v := 0) hx hb hr (by first | rfl | decide | assumption) (fun t ht hW => ⟨0, rfl, Or.inr ⟨rfl, fun z => by first | exact absurd z.1 (Int32.not_le.mpr c2) | exact absurd z.2 (Int32.not_le.mpr c10)⟩, ht⟩) (fun q hq => by cases hq) d_G_hasTicket_18
    ·
      refine lv_iconst (v := 1) hx hb d_G_hasTicket_13 (by decide) ?_
      refine lv_goto (tgt := 18) hx hb d_G_hasTicket_14 (by decide) ?_
      exact W.zret (v := 1) hx hb hr (by first | rfl | decide | assumption) (fun t ht hW => ⟨1, rfl, Or.inl ⟨rfl, Int32.not_lt.mp c2, Int32.not_lt.mp c10⟩, ht⟩) (fun q hq => by cases hq) d_G_hasTicket_18
set_option maxHeartbeats 4000000 in
set_option maxRecDepth 100000 in
theorem c_G_empty (l : Launch) (dC : Nat → ClassId) (dI : Nat → Nat → Nat) (ad cd : Nat → Nat) (sz : Nat) (w wr fl : Nat → Int32) (pw sc : Int32) (lw rot vb : Nat → Int32) (rec tk : Int32) (live row : Nat → Int32) (cur ser dur wo : Int32) (bts : Nat → Int32) (us : Int32) (act : Nat → Int32) (rd rs : Int32)  : Met l y_G_empty w_G_empty ({ frames := 0, cells := 0, slots := 0, locals := 0 }) (xP (dC, dI) vwCl (xt cd) (xw ad cd w wr fl pw sc lw rot vb rec tk live row cur ser dur wo bts us act rd rs) sz [.ref (ad 3)]) (va_Qv (fun (u : Unit) => True) (fun (u : Unit) (t : State) => xB (dC, dI) vwCl (xt cd) (xA 15 ad sz) (xw ad cd w wr fl pw sc lw rot vb (nI 0) (nI 0) live row cur ser dur wo bts us act rd rs) t) (xA 15 ad sz)) 0 0 (xA 15 ad sz) := by
  refine Met.ofW (cc := b_G_empty) (maxL := 1) (ret := none) (by decide) rfl ?_
  intro P e s m args below meth c0 s₁ B hml hv
  obtain ⟨rfl, hsz, hP, hK, hD0⟩ := hv
  have hx := B.exec
  have hb := B.bytes
  have hr := B.returns
  have hts := atoms_spec (ws := w_G_empty) B.pre
  have hown : s.vm.findClass R_G = some m.cls := findClass_of_methodNamed B.named
  have hlocks := B.notSynchronized
  subst hsz
  have hD := xw_D (sz := s.heap.size) hD0
  have hS : va_S (xA 15 ad s.heap.size) s.heap s.heap [] := va_S.rf
  have hA : ∀ q : Nat, s.heap.size ≤ q → (xA 15 ad s.heap.size) q := fun q h => Or.inr h
  have hl := lv_entry ([.ref (ad 3)]) (n := 1) (Nat.le_of_ble_eq_true rfl)
  rw [lg_entry_eq]
  generalize (lg_sl ([.ref (ad 3)]) ++ List.replicate (1 - (lg_sl ([.ref (ad 3)])).length) Slot.unset).toArray = ls at hl ⊢
  have hl : lv_has ls 1 [(0, .ref (ad 3))] := hl
  refine lv_aload_n hx hb d_G_empty_0 rfl (lv_at hl 0 rfl) ?_
  refine lv_iconst (v := nI 0) hx hb d_G_empty_1 (by decide) ?_
  refine va_put (D := (dC, dI)) (ci := 2) (v := .int (nI 0)) (ty := .int) (C := R_G) (T := F_G) (N := 5) hx hb hts (fun w h => List.mem_cons_of_mem _ (in_G w h)) t_G ok_G nm_G hown hK hP hD hS 3 rfl rfl 3 (by decide) (hts (.fieldLink R_G 21 R_G "records" "I") (List.mem_cons_of_mem _ t_87)) (fun _ h9 => h9) rfl (by decide +kernel) rfl rfl (Nat.le_of_ble_eq_true rfl) d_G_empty_2 (fun H locs hP hD hS => ?_)
  have hP : va_P (dC, dI) vwCl (xw ad cd w wr fl pw sc lw rot vb (nI 0) tk live row cur ser dur wo bts us act rd rs) H := hP
  have hD : va_D (xA 15 ad s.heap.size) (xw ad cd w wr fl pw sc lw rot vb (nI 0) tk live row cur ser dur wo bts us act rd rs) := hD
  refine lv_aload_n hx hb d_G_empty_5 rfl (lv_at hl 0 rfl) ?_
  refine lv_iconst (v := nI 0) hx hb d_G_empty_6 (by decide) ?_
  refine va_put (D := (dC, dI)) (ci := 2) (v := .int (nI 0)) (ty := .int) (C := R_G) (T := F_G) (N := 5) hx hb hts (fun w h => List.mem_cons_of_mem _ (in_G w h)) t_G ok_G nm_G hown hK hP hD hS 3 rfl rfl 4 (by decide) (hts (.fieldLink R_G 25 R_G "tickets" "I") (List.mem_cons_of_mem _ t_88)) (fun _ h9 => h9) rfl (by decide +kernel) rfl rfl (Nat.le_of_ble_eq_true rfl) d_G_empty_7 (fun H locs hP hD hS => ?_)
  have hP : va_P (dC, dI) vwCl (xw ad cd w wr fl pw sc lw rot vb (nI 0) (nI 0) live row cur ser dur wo bts us act rd rs) H := hP
  have hD : va_D (xA 15 ad s.heap.size) (xw ad cd w wr fl pw sc lw rot vb (nI 0) (nI 0) live row cur ser dur wo bts us act rd rs) := hD
  exact W.vret hx hb hr (fun t ht hW => ⟨⟨(), rfl, by first | rfl | trivial | omega, ⟨by rw [ht]; exact hP, va_K.moved hW.alike hK, hD⟩⟩, hS.F ht⟩) hS.2.2 d_G_empty_10
end
section
set_option maxHeartbeats 4000000 in
set_option maxRecDepth 100000 in
theorem c_S_durableCount (l : Launch) (dC : Nat → ClassId) (dI : Nat → Nat → Nat) (ad cd : Nat → Nat) (w wr fl : Nat → Int32) (pw sc : Int32) (lw rot vb : Nat → Int32) (rec tk : Int32) (live row : Nat → Int32) (cur ser dur wo : Int32) (bts : Nat → Int32) (us : Int32) (act : Nat → Int32) (rd rs : Int32)  : Met l y_S_durableCount w_S_durableCount ({ frames := 0, cells := 0, slots := 0, locals := 0 }) (xR (dC, dI) vwCl (xt cd) (xw ad cd w wr fl pw sc lw rot vb rec tk live row cur ser dur wo bts us act rd rs) [.ref (ad 1)]) (vp_Si (fun r => r = dur)) 0 0 (fun _ => False) := by
  refine Met.ofW (cc := b_S_durableCount) (maxL := 1) (ret := (some (.int))) (by decide) rfl ?_
  intro P e s m args below meth c0 s₁ B hml hv
  obtain ⟨rfl, hP, hK⟩ := hv
  have hx := B.exec
  have hb := B.bytes
  have hr := B.returns
  have hts := atoms_spec (ws := w_S_durableCount) B.pre
  have hown : s.vm.findClass R_S = some m.cls := findClass_of_methodNamed B.named
  have hlocks := B.notSynchronized
  have hl := lv_entry ([.ref (ad 1)]) (n := 1) (Nat.le_of_ble_eq_true rfl)
  rw [lg_entry_eq]
  generalize (lg_sl ([.ref (ad 1)]) ++ List.replicate (1 - (lg_sl ([.ref (ad 1)])).length) Slot.unset).toArray = ls at hl ⊢
  have hl : lv_has ls 1 [(0, .ref (ad 1))] := hl
  refine lv_aload_n hx hb d_S_durableCount_0 rfl (lv_at hl 0 rfl) ?_
  refine va_get (D := (dC, dI)) (ci := 3) (v := .int dur) (C := R_S) (T := F_S) (N := 7) hx hb hts (fun w h => List.mem_cons_of_mem _ (in_S w h)) hown hK hP 1 rfl rfl 5 (by decide) (hts (.fieldLink R_S 32 R_S "durable" "I") (List.mem_cons_of_mem _ t_57)) (fun _ h9 => h9) rfl d_S_durableCount_1 ?_
  exact W.iret (v := dur) hx hb hr (fun t ht hW => ⟨dur, rfl, by first | rfl | trivial | omega, ht⟩) (fun q hq => by cases hq) d_S_durableCount_4
set_option maxHeartbeats 4000000 in
set_option maxRecDepth 100000 in
theorem c_S_latestSerial (l : Launch) (dC : Nat → ClassId) (dI : Nat → Nat → Nat) (ad cd : Nat → Nat) (w wr fl : Nat → Int32) (pw sc : Int32) (lw rot vb : Nat → Int32) (rec tk : Int32) (live row : Nat → Int32) (cur ser dur wo : Int32) (bts : Nat → Int32) (us : Int32) (act : Nat → Int32) (rd rs : Int32)  : Met l y_S_latestSerial w_S_latestSerial ({ frames := 0, cells := 0, slots := 0, locals := 0 }) (xR (dC, dI) vwCl (xt cd) (xw ad cd w wr fl pw sc lw rot vb rec tk live row cur ser dur wo bts us act rd rs) [.ref (ad 1)]) (vp_Si (fun r => r = ser)) 0 0 (fun _ => False) := by
  refine Met.ofW (cc := b_S_latestSerial) (maxL := 1) (ret := (some (.int))) (by decide) rfl ?_
  intro P e s m args below meth c0 s₁ B hml hv
  obtain ⟨rfl, hP, hK⟩ := hv
  have hx := B.exec
  have hb := B.bytes
  have hr := B.returns
  have hts := atoms_spec (ws := w_S_latestSerial) B.pre
  have hown : s.vm.findClass R_S = some m.cls := findClass_of_methodNamed B.named
  have hlocks := B.notSynchronized
  have hl := lv_entry ([.ref (ad 1)]) (n := 1) (Nat.le_of_ble_eq_true rfl)
  rw [lg_entry_eq]
  generalize (lg_sl ([.ref (ad 1)]) ++ List.replicate (1 - (lg_sl ([.ref (ad 1)])).length) Slot.unset).toArray = ls at hl ⊢
  have hl : lv_has ls 1 [(0, .ref (ad 1))] := hl
  refine lv_aload_n hx hb d_S_latestSerial_0 rfl (lv_at hl 0 rfl) ?_
  refine va_get (D := (dC, dI)) (ci := 3) (v := .int ser) (C := R_S) (T := F_S) (N := 7) hx hb hts (fun w h => List.mem_cons_of_mem _ (in_S w h)) hown hK hP 1 rfl rfl 4 (by decide) (hts (.fieldLink R_S 29 R_S "serial" "I") (List.mem_cons_of_mem _ t_56)) (fun _ h9 => h9) rfl d_S_latestSerial_1 ?_
  exact W.iret (v := ser) hx hb hr (fun t ht hW => ⟨ser, rfl, by first | rfl | trivial | omega, ht⟩) (fun q hq => by cases hq) d_S_latestSerial_4
set_option maxHeartbeats 4000000 in
set_option maxRecDepth 100000 in
theorem c_S_cursorBlock (l : Launch) (dC : Nat → ClassId) (dI : Nat → Nat → Nat) (ad cd : Nat → Nat) (w wr fl : Nat → Int32) (pw sc : Int32) (lw rot vb : Nat → Int32) (rec tk : Int32) (live row : Nat → Int32) (cur ser dur wo : Int32) (bts : Nat → Int32) (us : Int32) (act : Nat → Int32) (rd rs : Int32)  : Met l y_S_cursorBlock w_S_cursorBlock ({ frames := 0, cells := 0, slots := 0, locals := 0 }) (xR (dC, dI) vwCl (xt cd) (xw ad cd w wr fl pw sc lw rot vb rec tk live row cur ser dur wo bts us act rd rs) [.ref (ad 1)]) (vp_Si (fun r => r = cur)) 0 0 (fun _ => False) := by
  refine Met.ofW (cc := b_S_cursorBlock) (maxL := 1) (ret := (some (.int))) (by decide) rfl ?_
  intro P e s m args below meth c0 s₁ B hml hv
  obtain ⟨rfl, hP, hK⟩ := hv
  have hx := B.exec
  have hb := B.bytes
  have hr := B.returns
  have hts := atoms_spec (ws := w_S_cursorBlock) B.pre
  have hown : s.vm.findClass R_S = some m.cls := findClass_of_methodNamed B.named
  have hlocks := B.notSynchronized
  have hl := lv_entry ([.ref (ad 1)]) (n := 1) (Nat.le_of_ble_eq_true rfl)
  rw [lg_entry_eq]
  generalize (lg_sl ([.ref (ad 1)]) ++ List.replicate (1 - (lg_sl ([.ref (ad 1)])).length) Slot.unset).toArray = ls at hl ⊢
  have hl : lv_has ls 1 [(0, .ref (ad 1))] := hl
  refine lv_aload_n hx hb d_S_cursorBlock_0 rfl (lv_at hl 0 rfl) ?_
  refine va_get (D := (dC, dI)) (ci := 3) (v := .int cur) (C := R_S) (T := F_S) (N := 7) hx hb hts (fun w h => List.mem_cons_of_mem _ (in_S w h)) hown hK hP 1 rfl rfl 3 (by decide) (hts (.fieldLink R_S 25 R_S "cursor" "I") (List.mem_cons_of_mem _ t_55)) (fun _ h9 => h9) rfl d_S_cursorBlock_1 ?_
  exact W.iret (v := cur) hx hb hr (fun t ht hW => ⟨cur, rfl, by first | rfl | trivial | omega, ht⟩) (fun q hq => by cases hq) d_S_cursorBlock_4
set_option maxHeartbeats 4000000 in
set_option maxRecDepth 100000 in
theorem c_S_isLive_f (l : Launch) (dC : Nat → ClassId) (dI : Nat → Nat → Nat) (ad cd : Nat → Nat) (w wr fl : Nat → Int32) (pw sc : Int32) (lw rot vb : Nat → Int32) (rec tk : Int32) (live row : Nat → Int32) (cur ser dur wo : Int32) (bts : Nat → Int32) (us : Int32) (act : Nat → Int32) (rd rs : Int32) (pa : Nat) (hp : pa < 32) (hlv : ∀ i, i < 16 → live i = -1) : Met l y_S_isLive w_S_isLive ({ frames := 0, cells := 0, slots := 0, locals := 0 }) (xR (dC, dI) vwCl (xt cd) (xw ad cd w wr fl pw sc lw rot vb rec tk live row cur ser dur wo bts us act rd rs) [.ref (ad 1), .int (nI pa)]) (vp_Si (fun r => r = 0)) 0 0 (fun _ => False) := by
  refine Met.ofW (cc := b_S_isLive) (maxL := 3) (ret := (some (.boolean))) (by decide) rfl ?_
  intro P e s m args below meth c0 s₁ B hml hv
  obtain ⟨rfl, hP, hK⟩ := hv
  have hx := B.exec
  have hb := B.bytes
  have hr := B.returns
  have hts := atoms_spec (ws := w_S_isLive) B.pre
  have hown : s.vm.findClass R_S = some m.cls := findClass_of_methodNamed B.named
  have hlocks := B.notSynchronized
  have hl := lv_entry ([.ref (ad 1), .int (nI pa)]) (n := 3) (Nat.le_of_ble_eq_true rfl)
  rw [lg_entry_eq]
  generalize (lg_sl ([.ref (ad 1), .int (nI pa)]) ++ List.replicate (3 - (lg_sl ([.ref (ad 1), .int (nI pa)])).length) Slot.unset).toArray = ls at hl ⊢
  have hl : lv_has ls 3 [(0, .ref (ad 1)), (1, .int (nI pa))] := hl
  refine lv_iconst (v := nI 0) hx hb d_S_isLive_0 (by decide) ?_
  refine lv_istore_n hx hb d_S_isLive_1 rfl hl (by decide) rfl (fun ls hl => ?_)
  have hl : lv_has ls 3 [(2, .int (nI 0)), (0, .ref (ad 1)), (1, .int (nI pa))] := hl
  have lp2 : ∀ (n : Nat) (k : Nat) (ls : Array Slot), (16 - k) < n → (k ≤ 16) → lv_has ls 3 [(0, .ref (ad 1)), (1, .int (nI pa)), (2, .int (nI k))] → W P l e (headSpec w_S_isLive ({ frames := 0, cells := 0, slots := 0, locals := 0 })).room s m (([.ref (ad 1), .int (nI pa)] : List Value).toArray) below meth c0 s.heap [] 0 0 (MQ below (vp_Si (fun r => r = 0)) (([.ref (ad 1), .int (nI pa)] : List Value).toArray) s 0 0 (fun _ => False)) (F0 m 2 ls []) := by
    intro n
    induction n with
    | zero => intro k ls hm; intros; omega
    | succ n ih2 =>
      intro k ls hm hk hl
      refine lv_iload_n hx hb d_S_isLive_2 rfl (lv_at hl 2 rfl) ?_
      refine lv_bipush (v := nI 16) hx hb d_S_isLive_3 (by decide) ?_
      refine lv_icmp_ge (tgt := 26) hx hb d_S_isLive_5 (by decide) (fun c5 => ?_) (fun c5 => ?_)
      ·
        have c5 := cd_ge_t (by omega) (by omega) c5
        refine lv_iconst (v := 0) hx hb d_S_isLive_26 (by decide) ?_
        exact W.zret (v := 0) hx hb hr (by first | rfl | decide | assumption) (fun t ht hW => ⟨0, rfl, by first | rfl | trivial | omega, ht⟩) (fun q hq => by cases hq) d_S_isLive_27
      ·
        have c5 := cd_ge_f (by omega) (by omega) c5
        refine lv_aload_n hx hb d_S_isLive_8 rfl (lv_at hl 0 rfl) ?_
        refine va_get (D := (dC, dI)) (ci := 3) (v := .ref (ad 6)) (C := R_S) (T := F_S) (N := 7) hx hb hts (fun w h => List.mem_cons_of_mem _ (in_S w h)) hown hK hP 1 rfl rfl 1 (by decide) (hts (.fieldLink R_S 18 R_S "livePages" "[I") (List.mem_cons_of_mem _ t_53)) (fun _ h9 => h9) rfl d_S_isLive_9 ?_
        refine lv_iload_n hx hb d_S_isLive_12 rfl (lv_at hl 2 rfl) ?_
        refine va_iald hx hb hK hP 6 1 rfl rfl (vp_in_nI (by omega) (by decide)) d_S_isLive_13 ?_
        refine tp_i (y := live k) (by rw [nI_clamp (by omega)]) ?_
        refine lv_iload_n hx hb d_S_isLive_14 rfl (lv_at hl 1 rfl) ?_
        refine lv_icmp_ne (tgt := 20) hx hb d_S_isLive_15 (by decide) (fun c15 => ?_) (fun c15 => ?_)
        ·
          refine lv_iinc (k := 2) (v := nI (k + 1)) hx hb d_S_isLive_20 hl rfl (nI_1 _) (by decide) rfl (fun ls hl => ?_)
          have hl : lv_has ls 3 [(2, .int (nI (k + 1))), (0, .ref (ad 1)), (1, .int (nI pa))] := hl
          refine lv_goto (tgt := 2) hx hb d_S_isLive_23 (by decide) ?_
          exact ih2 (k + 1) ls (by omega) (by omega) (lv_sub hl [1, 2, 0] rfl)
        ·
          exact absurd ((hlv k (by omega)).symm.trans c15).symm (m1_ne (by omega))
  exact lp2 _ 0 ls (Nat.lt_succ_self _) (by omega) (lv_sub hl [1, 2, 0] rfl)
set_option maxHeartbeats 4000000 in
set_option maxRecDepth 100000 in
theorem c_S_livePageCount_f (l : Launch) (dC : Nat → ClassId) (dI : Nat → Nat → Nat) (ad cd : Nat → Nat) (w wr fl : Nat → Int32) (pw sc : Int32) (lw rot vb : Nat → Int32) (rec tk : Int32) (live row : Nat → Int32) (cur ser dur wo : Int32) (bts : Nat → Int32) (us : Int32) (act : Nat → Int32) (rd rs : Int32)  (hlv : ∀ i, i < 16 → live i = -1) : Met l y_S_livePageCount w_S_livePageCount ({ frames := 1, cells := 0, slots := 0, locals := 22 }) (xR (dC, dI) vwCl (xt cd) (xw ad cd w wr fl pw sc lw rot vb rec tk live row cur ser dur wo bts us act rd rs) [.ref (ad 1)]) (vp_Si (fun r => r = nI 0)) 0 0 (fun _ => False) := by
  refine Met.ofW (cc := b_S_livePageCount) (maxL := 3) (ret := (some (.int))) (by decide) rfl ?_
  intro P e s m args below meth c0 s₁ B hml hv
  obtain ⟨rfl, hP, hK⟩ := hv
  have hx := B.exec
  have hb := B.bytes
  have hr := B.returns
  have hts := atoms_spec (ws := w_S_livePageCount) B.pre
  have hown : s.vm.findClass R_S = some m.cls := findClass_of_methodNamed B.named
  have hlocks := B.notSynchronized
  have hl := lv_entry ([.ref (ad 1)]) (n := 3) (Nat.le_of_ble_eq_true rfl)
  rw [lg_entry_eq]
  generalize (lg_sl ([.ref (ad 1)]) ++ List.replicate (3 - (lg_sl ([.ref (ad 1)])).length) Slot.unset).toArray = ls at hl ⊢
  have hl : lv_has ls 3 [(0, .ref (ad 1))] := hl
  refine lv_iconst (v := nI 0) hx hb d_S_livePageCount_0 (by decide) ?_
  refine lv_istore_n hx hb d_S_livePageCount_1 rfl hl (by decide) rfl (fun ls hl => ?_)
  have hl : lv_has ls 3 [(1, .int (nI 0)), (0, .ref (ad 1))] := hl
  refine lv_iconst (v := nI 0) hx hb d_S_livePageCount_2 (by decide) ?_
  refine lv_istore_n hx hb d_S_livePageCount_3 rfl hl (by decide) rfl (fun ls hl => ?_)
  have hl : lv_has ls 3 [(2, .int (nI 0)), (1, .int (nI 0)), (0, .ref (ad 1))] := hl
  have lp4 : ∀ (n : Nat) (k : Nat) (ls : Array Slot), (32 - k) < n → (k ≤ 32) → lv_has ls 3 [(0, .ref (ad 1)), (1, .int (nI 0)), (2, .int (nI k))] → W P l e (headSpec w_S_livePageCount ({ frames := 1, cells := 0, slots := 0, locals := 22 })).room s m (([.ref (ad 1)] : List Value).toArray) below meth c0 s.heap [] 0 0 (MQ below (vp_Si (fun r => r = nI 0)) (([.ref (ad 1)] : List Value).toArray) s 0 0 (fun _ => False)) (F0 m 4 ls []) := by
    intro n
    induction n with
    | zero => intro k ls hm; intros; omega
    | succ n ih4 =>
      intro k ls hm hk hl
      refine lv_iload_n hx hb d_S_livePageCount_4 rfl (lv_at hl 2 rfl) ?_
      refine lv_bipush (v := nI 32) hx hb d_S_livePageCount_5 (by decide) ?_
      refine lv_icmp_ge (tgt := 27) hx hb d_S_livePageCount_7 (by decide) (fun c7 => ?_) (fun c7 => ?_)
      ·
        have c7 := cd_ge_t (by omega) (by omega) c7
        refine lv_iload_n hx hb d_S_livePageCount_27 rfl (lv_at hl 1 rfl) ?_
        exact W.iret (v := nI 0) hx hb hr (fun t ht hW => ⟨nI 0, rfl, by first | rfl | trivial | omega, ht⟩) (fun q hq => by cases hq) d_S_livePageCount_28
      ·
        have c7 := cd_ge_f (by omega) (by omega) c7
        refine lv_aload_n hx hb d_S_livePageCount_10 rfl (lv_at hl 0 rfl) ?_
        refine lv_iload_n hx hb d_S_livePageCount_11 rfl (lv_at hl 2 rfl) ?_
        refine vp_callSi (va_runV (C := R_S) (As := [.int (nI k)]) (rest := []) ⟨hx, hb, hml, hown, hts⟩ (c_S_isLive_f l dC dI ad cd w wr fl pw sc lw rot vb rec tk live row cur ser dur wo bts us act rd rs k (by omega) (hlv)) (cwV 1 hts (g_V t_238 t_240 s_5 t_2 t_241) rfl rfl rfl (by decide +kernel) ⟨by decide, by decide⟩) (xR_v hP hK 1 rfl rfl) rfl rfl hl.1 rfl (lv_room (Nat.le_of_ble_eq_true rfl)) d_S_livePageCount_12 ⟨Nat.le_refl _, Nat.le_refl _⟩).run (fun r12 q12 => ?_)
        subst q12
        refine lv_if_eq (tgt := 21) hx hb d_S_livePageCount_15 (by decide) (fun c15 => ?_) (fun c15 => ?_)
        ·
          refine lv_iinc (k := 2) (v := nI (k + 1)) hx hb d_S_livePageCount_21 hl rfl (nI_1 _) (by decide) rfl (fun ls hl => ?_)
          have hl : lv_has ls 3 [(2, .int (nI (k + 1))), (0, .ref (ad 1)), (1, .int (nI 0))] := hl
          refine lv_goto (tgt := 4) hx hb d_S_livePageCount_24 (by decide) ?_
          exact ih4 (k + 1) ls (by omega) (by omega) (lv_sub hl [1, 2, 0] rfl)
        ·
          exact absurd c15 (by decide)
  exact lp4 _ 0 ls (Nat.lt_succ_self _) (by omega) (lv_sub hl [2, 1, 0] rfl)
end
section
set_option maxHeartbeats 4000000 in
set_option maxRecDepth 100000 in
theorem c_S_findNewestPages_f (l : Launch) (dC : Nat → ClassId) (dI : Nat → Nat → Nat) (ad cd : Nat → Nat) (sz : Nat) (w wr fl : Nat → Int32) (pw sc : Int32) (lw rot vb : Nat → Int32) (rec tk : Int32) (live row : Nat → Int32) (cur ser dur wo : Int32) (bts : Nat → Int32) (us : Int32) (act : Nat → Int32) (rd rs : Int32)  (hw : ∀ i, i < 512 → w i = -1) : Met l y_S_findNewestPages w_S_findNewestPages ({ frames := 2, cells := 0, slots := 0, locals := 44 }) (xP (dC, dI) vwCl (xt cd) (xw ad cd w wr fl pw sc lw rot vb rec tk live row cur ser dur wo bts us act rd rs) sz [.ref (ad 1)]) (va_Qi (fun r (u : Nat → Int32) => r = -1 ∧ ∀ i, i < 16 → u i = -1) (fun (u : Nat → Int32) (t : State) => xB (dC, dI) vwCl (xt cd) (xA 15 ad sz) (xw ad cd w wr fl pw sc lw rot vb rec tk u row cur ser dur wo bts us act rd rs) t) (xA 15 ad sz)) 0 0 (xA 15 ad sz) := by
  refine Met.ofW (cc := b_S_findNewestPages) (maxL := 4) (ret := (some (.int))) (by decide) rfl ?_
  intro P e s m args below meth c0 s₁ B hml hv
  obtain ⟨rfl, hsz, hP, hK, hD0⟩ := hv
  have hx := B.exec
  have hb := B.bytes
  have hr := B.returns
  have hts := atoms_spec (ws := w_S_findNewestPages) B.pre
  have hown : s.vm.findClass R_S = some m.cls := findClass_of_methodNamed B.named
  have hlocks := B.notSynchronized
  subst hsz
  have hD := xw_D (sz := s.heap.size) hD0
  have hS : va_S (xA 15 ad s.heap.size) s.heap s.heap [] := va_S.rf
  have hA : ∀ q : Nat, s.heap.size ≤ q → (xA 15 ad s.heap.size) q := fun q h => Or.inr h
  have hl := lv_entry ([.ref (ad 1)]) (n := 4) (Nat.le_of_ble_eq_true rfl)
  rw [lg_entry_eq]
  generalize (lg_sl ([.ref (ad 1)]) ++ List.replicate (4 - (lg_sl ([.ref (ad 1)])).length) Slot.unset).toArray = ls at hl ⊢
  have hl : lv_has ls 4 [(0, .ref (ad 1))] := hl
  refine lv_iconst (v := nI 0) hx hb d_S_findNewestPages_0 (by decide) ?_
  refine lv_istore_n hx hb d_S_findNewestPages_1 rfl hl (by decide) rfl (fun ls hl => ?_)
  have hl : lv_has ls 4 [(1, .int (nI 0)), (0, .ref (ad 1))] := hl
  have lp2 : ∀ (n : Nat) (k : Nat) (lv : Nat → Int32) (H : Heap) (locs : List Loc) (ls : Array Slot), (16 - k) < n → (k ≤ 16) → (∀ i, i < k → lv i = -1) → lv_has ls 4 [(0, .ref (ad 1)), (1, .int (nI k))] → va_P (dC, dI) vwCl (xw ad cd w wr fl pw sc lw rot vb rec tk lv row cur ser dur wo bts us act rd rs) H → va_D (xA 15 ad s.heap.size) (xw ad cd w wr fl pw sc lw rot vb rec tk lv row cur ser dur wo bts us act rd rs) → va_S (xA 15 ad s.heap.size) s.heap H locs → W P l e (headSpec w_S_findNewestPages ({ frames := 2, cells := 0, slots := 0, locals := 44 })).room s m (([.ref (ad 1)] : List Value).toArray) below meth c0 H locs 0 0 (MQ below (va_Qi (fun r (u : Nat → Int32) => r = -1 ∧ ∀ i, i < 16 → u i = -1) (fun (u : Nat → Int32) (t : State) => xB (dC, dI) vwCl (xt cd) (xA 15 ad s.heap.size) (xw ad cd w wr fl pw sc lw rot vb rec tk u row cur ser dur wo bts us act rd rs) t) (xA 15 ad s.heap.size)) (([.ref (ad 1)] : List Value).toArray) s 0 0 (xA 15 ad s.heap.size)) (F0 m 2 ls []) := by
    intro n
    induction n with
    | zero => intro k lv H locs ls hm; intros; omega
    | succ n ih2 =>
      intro k lv H locs ls hm hk hf hl hP hD hS
      refine lv_iload_n hx hb d_S_findNewestPages_2 rfl (lv_at hl 1 rfl) ?_
      refine lv_bipush (v := nI 16) hx hb d_S_findNewestPages_3 (by decide) ?_
      refine lv_icmp_ge (tgt := 21) hx hb d_S_findNewestPages_5 (by decide) (fun c5 => ?_) (fun c5 => ?_)
      ·
        have c5 := cd_ge_t (by omega) (by omega) c5
        refine lv_iconst (v := (-1)) hx hb d_S_findNewestPages_21 (by decide) ?_
        refine lv_istore_n hx hb d_S_findNewestPages_22 rfl hl (by decide) rfl (fun ls hl => ?_)
        have hl : lv_has ls 4 [(1, .int (-1)), (0, .ref (ad 1))] := hl
        refine lv_iconst (v := nI 0) hx hb d_S_findNewestPages_23 (by decide) ?_
        refine lv_istore_n hx hb d_S_findNewestPages_24 rfl hl (by decide) rfl (fun ls hl => ?_)
        have hl : lv_has ls 4 [(2, .int (nI 0)), (1, .int (-1)), (0, .ref (ad 1))] := hl
        have lp25 : ∀ (n : Nat) (k : Nat) (ls : Array Slot), (32 - k) < n → (k ≤ 32) → lv_has ls 4 [(0, .ref (ad 1)), (1, .int (-1)), (2, .int (nI k))] → W P l e (headSpec w_S_findNewestPages ({ frames := 2, cells := 0, slots := 0, locals := 44 })).room s m (([.ref (ad 1)] : List Value).toArray) below meth c0 H locs 0 0 (MQ below (va_Qi (fun r (u : Nat → Int32) => r = -1 ∧ ∀ i, i < 16 → u i = -1) (fun (u : Nat → Int32) (t : State) => xB (dC, dI) vwCl (xt cd) (xA 15 ad s.heap.size) (xw ad cd w wr fl pw sc lw rot vb rec tk u row cur ser dur wo bts us act rd rs) t) (xA 15 ad s.heap.size)) (([.ref (ad 1)] : List Value).toArray) s 0 0 (xA 15 ad s.heap.size)) (F0 m 25 ls []) := by
          intro n
          induction n with
          | zero => intro k ls hm; intros; omega
          | succ n ih25 =>
            intro k ls hm hk hl
            refine lv_iload_n hx hb d_S_findNewestPages_25 rfl (lv_at hl 2 rfl) ?_
            refine lv_bipush (v := nI 32) hx hb d_S_findNewestPages_26 (by decide) ?_
            refine lv_icmp_ge (tgt := 84) hx hb d_S_findNewestPages_28 (by decide) (fun c28 => ?_) (fun c28 => ?_)
            ·
              have c28 := cd_ge_t (by omega) (by omega) c28
              refine lv_iload_n hx hb d_S_findNewestPages_84 rfl (lv_at hl 1 rfl) ?_
              exact W.iret (v := (-1)) hx hb hr (fun t ht hW => ⟨⟨(-1), lv, rfl, ⟨rfl, fun i hi => hf i (by omega)⟩, ⟨by rw [ht]; exact hP, va_K.moved hW.alike hK, hD⟩⟩, hS.F ht⟩) hS.2.2 d_S_findNewestPages_85
            ·
              have c28 := cd_ge_f (by omega) (by omega) c28
              refine lv_aload_n hx hb d_S_findNewestPages_31 rfl (lv_at hl 0 rfl) ?_
              refine va_get (D := (dC, dI)) (ci := 3) (v := .ref (ad 2)) (C := R_S) (T := F_S) (N := 7) hx hb hts (fun w h => List.mem_cons_of_mem _ (in_S w h)) hown hK hP 1 rfl rfl 0 (by decide) (hts (.fieldLink R_S 12 R_S "chip" "LWeighRecorder$Chip;") (List.mem_cons_of_mem _ t_52)) (fun _ h9 => h9) rfl d_S_findNewestPages_32 ?_
              refine lv_iload_n hx hb d_S_findNewestPages_35 rfl (lv_at hl 2 rfl) ?_
              refine vp_callSi (va_runV (C := R_C) (As := [.int (nI k)]) (rest := []) ⟨hx, hb, hml, hown, hts⟩ (c_C_isRight_f l dC dI ad cd w wr fl pw sc lw rot vb rec tk lv row cur ser dur wo bts us act rd rs k (by omega) (hw _ (by omega))) (cwV 1 hts (g_V t_160 t_161 t_162 t_3 t_163) rfl rfl rfl (by decide +kernel) ⟨by decide, by decide⟩) (xR_v hP hK 2 rfl rfl) rfl rfl hl.1 rfl (lv_room (Nat.le_of_ble_eq_true rfl)) d_S_findNewestPages_36 ⟨Nat.le_refl _, Nat.le_refl _⟩).run (fun r36 q36 => ?_)
              subst q36
              refine lv_if_eq (tgt := 78) hx hb d_S_findNewestPages_39 (by decide) (fun c39 => ?_) (fun c39 => ?_)
              ·
                refine lv_iinc (k := 2) (v := nI (k + 1)) hx hb d_S_findNewestPages_78 hl rfl (nI_1 _) (by decide) rfl (fun ls hl => ?_)
                have hl : lv_has ls 4 [(2, .int (nI (k + 1))), (0, .ref (ad 1)), (1, .int (-1))] := hl
                refine lv_goto (tgt := 25) hx hb d_S_findNewestPages_81 (by decide) ?_
                exact ih25 (k + 1) ls (by omega) (by omega) (lv_sub hl [1, 2, 0] rfl)
              ·
                exact absurd c39 (by decide)
        exact lp25 _ 0 ls (Nat.lt_succ_self _) (by omega) (lv_sub hl [2, 1, 0] rfl)
      ·
        have c5 := cd_ge_f (by omega) (by omega) c5
        refine lv_aload_n hx hb d_S_findNewestPages_8 rfl (lv_at hl 0 rfl) ?_
        refine va_get (D := (dC, dI)) (ci := 3) (v := .ref (ad 6)) (C := R_S) (T := F_S) (N := 7) hx hb hts (fun w h => List.mem_cons_of_mem _ (in_S w h)) hown hK hP 1 rfl rfl 1 (by decide) (hts (.fieldLink R_S 18 R_S "livePages" "[I") (List.mem_cons_of_mem _ t_53)) (fun _ h9 => h9) rfl d_S_findNewestPages_9 ?_
        refine lv_iload_n hx hb d_S_findNewestPages_12 rfl (lv_at hl 1 rfl) ?_
        refine lv_iconst (v := (-1)) hx hb d_S_findNewestPages_13 (by decide) ?_
        refine va_iast hx hb hK hP hD hS 6 1 rfl rfl (vp_in_nI (by omega) (by decide)) d_S_findNewestPages_14 (fun H locs hP hD hS => ?_)
        rw [nI_clamp (by omega)] at hP hD
        have hP : va_P (dC, dI) vwCl (xw ad cd w wr fl pw sc lw rot vb rec tk (upd lv k (-1)) row cur ser dur wo bts us act rd rs) H := hP
        have hD : va_D (xA 15 ad s.heap.size) (xw ad cd w wr fl pw sc lw rot vb rec tk (upd lv k (-1)) row cur ser dur wo bts us act rd rs) := hD
        refine lv_iinc (k := 1) (v := nI (k + 1)) hx hb d_S_findNewestPages_15 hl rfl (nI_1 _) (by decide) rfl (fun ls hl => ?_)
        have hl : lv_has ls 4 [(1, .int (nI (k + 1))), (0, .ref (ad 1))] := hl
        refine lv_goto (tgt := 2) hx hb d_S_findNewestPages_18 (by decide) ?_
        exact ih2 (k + 1) (upd lv k (-1)) H locs ls (by omega) (by omega) (upd_lt hf) (lv_sub hl [1, 0] rfl) hP hD hS
  exact lp2 _ 0 live s.heap [] ls (Nat.lt_succ_self _) (by omega) (fun i hi => absurd hi (Nat.not_lt_zero i)) (lv_sub hl [1, 0] rfl) hP hD hS
end
section
set_option maxHeartbeats 4000000 in
set_option maxRecDepth 100000 in
theorem c_S_restore_f (l : Launch) (dC : Nat → ClassId) (dI : Nat → Nat → Nat) (ad cd : Nat → Nat) (sz : Nat) (w wr fl : Nat → Int32) (pw sc : Int32) (lw rot vb : Nat → Int32) (rec tk : Int32) (live row : Nat → Int32) (cur ser dur wo : Int32) (bts : Nat → Int32) (us : Int32) (act : Nat → Int32) (rd rs : Int32)  (hw : ∀ i, i < 512 → w i = -1) : Met l y_S_restore w_S_restore ({ frames := 3, cells := 0, slots := 0, locals := 67 }) (xP (dC, dI) vwCl (xt cd) (xw ad cd w wr fl pw sc lw rot vb rec tk live row cur ser dur wo bts us act rd rs) sz [.ref (ad 1), .ref (ad 3)]) (va_Qv (fun (u : Nat → Int32) => ∀ i, i < 16 → u i = -1) (fun (u : Nat → Int32) (t : State) => xB (dC, dI) vwCl (xt cd) (xA 15 ad sz) (xw ad cd w wr fl pw sc lw rot vb (nI 0) (nI 0) u row (-1) (nI 0) (nI 0) (nI 0) bts us act rd rs) t) (xA 15 ad sz)) 0 0 (xA 15 ad sz) := by
  refine Met.ofW (cc := b_S_restore) (maxL := 5) (ret := none) (by decide) rfl ?_
  intro P e s m args below meth c0 s₁ B hml hv
  obtain ⟨rfl, hsz, hP, hK, hD0⟩ := hv
  have hx := B.exec
  have hb := B.bytes
  have hr := B.returns
  have hts := atoms_spec (ws := w_S_restore) B.pre
  have hown : s.vm.findClass R_S = some m.cls := findClass_of_methodNamed B.named
  have hlocks := B.notSynchronized
  subst hsz
  have hD := xw_D (sz := s.heap.size) hD0
  have hS : va_S (xA 15 ad s.heap.size) s.heap s.heap [] := va_S.rf
  have hA : ∀ q : Nat, s.heap.size ≤ q → (xA 15 ad s.heap.size) q := fun q h => Or.inr h
  have hl := lv_entry ([.ref (ad 1), .ref (ad 3)]) (n := 5) (Nat.le_of_ble_eq_true rfl)
  rw [lg_entry_eq]
  generalize (lg_sl ([.ref (ad 1), .ref (ad 3)]) ++ List.replicate (5 - (lg_sl ([.ref (ad 1), .ref (ad 3)])).length) Slot.unset).toArray = ls at hl ⊢
  have hl : lv_has ls 5 [(0, .ref (ad 1)), (1, .ref (ad 3))] := hl
  refine lv_aload_n hx hb d_S_restore_0 rfl (lv_at hl 0 rfl) ?_
  have hSz := hS.1
  refine va_calli (va_runV (C := R_S) (As := []) (rest := []) ⟨hx, hb, hml, hown, hts⟩ (c_S_findNewestPages_f l dC dI ad cd s.heap.size w wr fl pw sc lw rot vb rec tk live row cur ser dur wo bts us act rd rs  (hw)) (cwV 0 hts (g_V t_156 t_158 s_1 t_2 t_159) rfl rfl rfl (by decide +kernel) ⟨by decide, by decide⟩) (xP_v hP hK hD 1 rfl rfl) rfl rfl hl.1 rfl (lv_room (Nat.le_of_ble_eq_true rfl)) d_S_restore_1 ⟨Nat.le_refl _, Nat.le_refl _⟩) hS (fun q _ h => xA_up hS.1 q h) (fun q h => xA_up hS.1 q h) (fun r1 u1 t H1 locs1 ht hvm q1 hB hz1 hk1 hS => ?_)
  obtain ⟨hP1, hK1, hD1⟩ := hB
  rw [ht] at hP1
  have hD : va_D (xA 15 ad s.heap.size) (xw ad cd w wr fl pw sc lw rot vb rec tk u1 row cur ser dur wo bts us act rd rs) := hD1.weaken (fun _ q _ h => xA_up hSz _ h)
  have hP : va_P (dC, dI) vwCl (xw ad cd w wr fl pw sc lw rot vb rec tk u1 row cur ser dur wo bts us act rd rs) H1 := hP1
  generalize H1 = H at hP hS ⊢
  generalize locs1 = locs at hS ⊢
  obtain ⟨rfl, hlv⟩ := q1
  refine lv_istore_n hx hb d_S_restore_4 rfl hl (by decide) rfl (fun ls hl => ?_)
  have hl : lv_has ls 5 [(2, .int (-1)), (0, .ref (ad 1)), (1, .ref (ad 3))] := hl
  refine lv_aload_n hx hb d_S_restore_5 rfl (lv_at hl 1 rfl) ?_
  refine lv_iload_n hx hb d_S_restore_6 rfl (lv_at hl 0 rfl) ?_
  refine lv_iconst (v := (-1)) hx hb d_S_restore_7 (by decide) ?_
  refine lv_icmp_ne (tgt := 15) hx hb d_S_restore_8 (by decide) (fun c8 => ?_) (fun c8 => ?_)
  ·
    exact absurd c8 (by decide)
  ·
    refine lv_iconst (v := (-1)) hx hb d_S_restore_11 (by decide) ?_
    refine lv_goto (tgt := 18) hx hb d_S_restore_12 (by decide) ?_
    refine va_put (D := (dC, dI)) (ci := 3) (v := .int (-1)) (ty := .int) (C := R_S) (T := F_S) (N := 7) hx hb hts (fun w h => List.mem_cons_of_mem _ (in_S w h)) t_S ok_S nm_S hown hK hP hD hS 1 rfl rfl 3 (by decide) (hts (.fieldLink R_S 25 R_S "cursor" "I") (List.mem_cons_of_mem _ t_55)) (fun _ h9 => h9) rfl (by decide +kernel) rfl rfl (Nat.le_of_ble_eq_true rfl) d_S_restore_18 (fun H locs hP hD hS => ?_)
    have hP : va_P (dC, dI) vwCl (xw ad cd w wr fl pw sc lw rot vb rec tk u1 row (-1) ser dur wo bts us act rd rs) H := hP
    have hD : va_D (xA 15 ad s.heap.size) (xw ad cd w wr fl pw sc lw rot vb rec tk u1 row (-1) ser dur wo bts us act rd rs) := hD
    refine lv_aload_n hx hb d_S_restore_21 rfl (lv_at hl 1 rfl) ?_
    refine lv_iload_n hx hb d_S_restore_22 rfl (lv_at hl 0 rfl) ?_
    refine lv_iconst (v := (-1)) hx hb d_S_restore_23 (by decide) ?_
    refine lv_icmp_ne (tgt := 31) hx hb d_S_restore_24 (by decide) (fun c24 => ?_) (fun c24 => ?_)
    ·
      exact absurd c24 (by decide)
    ·
      refine lv_iconst (v := nI 0) hx hb d_S_restore_27 (by decide) ?_
      refine lv_goto (tgt := 40) hx hb d_S_restore_28 (by decide) ?_
      refine va_put (D := (dC, dI)) (ci := 3) (v := .int (nI 0)) (ty := .int) (C := R_S) (T := F_S) (N := 7) hx hb hts (fun w h => List.mem_cons_of_mem _ (in_S w h)) t_S ok_S nm_S hown hK hP hD hS 1 rfl rfl 4 (by decide) (hts (.fieldLink R_S 29 R_S "serial" "I") (List.mem_cons_of_mem _ t_56)) (fun _ h9 => h9) rfl (by decide +kernel) rfl rfl (Nat.le_of_ble_eq_true rfl) d_S_restore_40 (fun H locs hP hD hS => ?_)
      have hP : va_P (dC, dI) vwCl (xw ad cd w wr fl pw sc lw rot vb rec tk u1 row (-1) (nI 0) dur wo bts us act rd rs) H := hP
      have hD : va_D (xA 15 ad s.heap.size) (xw ad cd w wr fl pw sc lw rot vb rec tk u1 row (-1) (nI 0) dur wo bts us act rd rs) := hD
      refine lv_aload_n hx hb d_S_restore_43 rfl (lv_at hl 1 rfl) ?_
      refine lv_iconst (v := nI 0) hx hb d_S_restore_44 (by decide) ?_
      refine va_put (D := (dC, dI)) (ci := 3) (v := .int (nI 0)) (ty := .boolean) (C := R_S) (T := F_S) (N := 7) hx hb hts (fun w h => List.mem_cons_of_mem _ (in_S w h)) t_S ok_S nm_S hown hK hP hD hS 1 rfl rfl 6 (by decide) (hts (.fieldLink R_S 35 R_S "wornOut" "Z") (List.mem_cons_of_mem _ t_58)) (fun _ h9 => h9) rfl (by decide +kernel) (by first | rfl | decide | assumption) rfl (Nat.le_of_ble_eq_true rfl) d_S_restore_45 (fun H locs hP hD hS => ?_)
      have hP : va_P (dC, dI) vwCl (xw ad cd w wr fl pw sc lw rot vb rec tk u1 row (-1) (nI 0) dur (nI 0) bts us act rd rs) H := hP
      have hD : va_D (xA 15 ad s.heap.size) (xw ad cd w wr fl pw sc lw rot vb rec tk u1 row (-1) (nI 0) dur (nI 0) bts us act rd rs) := hD
      refine lv_aload_n hx hb d_S_restore_48 rfl (lv_at hl 2 rfl) ?_
      have hSz := hS.1
      refine va_callv (va_runV (C := R_G) (As := []) (rest := []) ⟨hx, hb, hml, hown, hts⟩ (c_G_empty l dC dI ad cd H.size w wr fl pw sc lw rot vb rec tk u1 row (-1) (nI 0) dur (nI 0) bts us act rd rs  ) (cwV 0 hts (g_V t_178 t_179 t_180 t_4 t_181) rfl rfl rfl (by decide +kernel) ⟨by decide, by decide⟩) (xP_v hP hK hD 3 rfl rfl) rfl rfl hl.1 rfl (lv_room (Nat.le_of_ble_eq_true rfl)) d_S_restore_49 ⟨Nat.le_refl _, Nat.le_refl _⟩) hS (fun q _ h => xA_up hS.1 q h) (fun q h => xA_up hS.1 q h) (fun u49 t H1 locs1 ht hvm q49 hB hz1 hk1 hS => ?_)
      obtain ⟨hP1, hK1, hD1⟩ := hB
      rw [ht] at hP1
      have hD : va_D (xA 15 ad s.heap.size) (xw ad cd w wr fl pw sc lw rot vb (nI 0) (nI 0) u1 row (-1) (nI 0) dur (nI 0) bts us act rd rs) := hD1.weaken (fun _ q _ h => xA_up hSz _ h)
      have hP : va_P (dC, dI) vwCl (xw ad cd w wr fl pw sc lw rot vb (nI 0) (nI 0) u1 row (-1) (nI 0) dur (nI 0) bts us act rd rs) H1 := hP1
      generalize H1 = H at hP hS ⊢
      generalize locs1 = locs at hS ⊢
      refine lv_iconst (v := nI 1) hx hb d_S_restore_52 (by decide) ?_
      refine lv_istore_n hx hb d_S_restore_53 rfl hl (by decide) rfl (fun ls hl => ?_)
      have hl : lv_has ls 5 [(3, .int (nI 1)), (2, .int (-1)), (0, .ref (ad 1)), (1, .ref (ad 3))] := hl
      refine lv_iconst (v := nI 0) hx hb d_S_restore_54 (by decide) ?_
      refine lv_istore hx hb d_S_restore_55 hl (by decide) rfl (fun ls hl => ?_)
      have hl : lv_has ls 5 [(4, .int (nI 0)), (3, .int (nI 1)), (2, .int (-1)), (0, .ref (ad 1)), (1, .ref (ad 3))] := hl
      have lp57 : ∀ (n : Nat) (k : Nat) (gv : Int32) (lv : Nat → Int32) (H : Heap) (locs : List Loc) (ls : Array Slot), (16 - k) < n → (k ≤ 16) → (∀ i, i < 16 → lv i = -1) → lv_has ls 5 [(0, .ref (ad 1)), (1, .ref (ad 3)), (3, .int gv), (4, .int (nI k))] → va_P (dC, dI) vwCl (xw ad cd w wr fl pw sc lw rot vb (nI 0) (nI 0) lv row (-1) (nI 0) dur (nI 0) bts us act rd rs) H → va_D (xA 15 ad s.heap.size) (xw ad cd w wr fl pw sc lw rot vb (nI 0) (nI 0) lv row (-1) (nI 0) dur (nI 0) bts us act rd rs) → va_S (xA 15 ad s.heap.size) s.heap H locs → W P l e (headSpec w_S_restore ({ frames := 3, cells := 0, slots := 0, locals := 67 })).room s m (([.ref (ad 1), .ref (ad 3)] : List Value).toArray) below meth c0 H locs 0 0 (MQ below (va_Qv (fun (u : Nat → Int32) => ∀ i, i < 16 → u i = -1) (fun (u : Nat → Int32) (t : State) => xB (dC, dI) vwCl (xt cd) (xA 15 ad s.heap.size) (xw ad cd w wr fl pw sc lw rot vb (nI 0) (nI 0) u row (-1) (nI 0) (nI 0) (nI 0) bts us act rd rs) t) (xA 15 ad s.heap.size)) (([.ref (ad 1), .ref (ad 3)] : List Value).toArray) s 0 0 (xA 15 ad s.heap.size)) (F0 m 57 ls []) := by
        intro n
        induction n with
        | zero => intro k gv lv H locs ls hm; intros; omega
        | succ n ih57 =>
          intro k gv lv H locs ls hm hk hf hl hP hD hS
          refine lv_iload hx hb d_S_restore_57 (lv_at hl 3 rfl) ?_
          refine lv_bipush (v := nI 16) hx hb d_S_restore_59 (by decide) ?_
          refine lv_icmp_ge (tgt := 128) hx hb d_S_restore_61 (by decide) (fun c61 => ?_) (fun c61 => ?_)
          ·
            have c61 := cd_ge_t (by omega) (by omega) c61
            refine lv_aload_n hx hb d_S_restore_128 rfl (lv_at hl 0 rfl) ?_
            refine lv_aload_n hx hb d_S_restore_129 rfl (lv_at hl 1 rfl) ?_
            refine vp_callSi (va_runV (C := R_G) (As := []) (rest := [.ref (ad 1)]) ⟨hx, hb, hml, hown, hts⟩ (c_G_recordCount l dC dI ad cd w wr fl pw sc lw rot vb (nI 0) (nI 0) lv row (-1) (nI 0) dur (nI 0) bts us act rd rs  ) (cwV 0 hts (g_V t_209 t_210 t_211 t_4 t_212) rfl rfl rfl (by decide +kernel) ⟨by decide, by decide⟩) (xR_v hP hK 3 rfl rfl) rfl rfl hl.1 rfl (lv_room (Nat.le_of_ble_eq_true rfl)) d_S_restore_130 ⟨Nat.le_refl _, Nat.le_refl _⟩).run (fun r130 q130 => ?_)
            subst q130
            refine va_put (D := (dC, dI)) (ci := 3) (v := .int (nI 0)) (ty := .int) (C := R_S) (T := F_S) (N := 7) hx hb hts (fun w h => List.mem_cons_of_mem _ (in_S w h)) t_S ok_S nm_S hown hK hP hD hS 1 rfl rfl 5 (by decide) (hts (.fieldLink R_S 32 R_S "durable" "I") (List.mem_cons_of_mem _ t_57)) (fun _ h9 => h9) rfl (by decide +kernel) rfl rfl (Nat.le_of_ble_eq_true rfl) d_S_restore_133 (fun H locs hP hD hS => ?_)
            have hP : va_P (dC, dI) vwCl (xw ad cd w wr fl pw sc lw rot vb (nI 0) (nI 0) lv row (-1) (nI 0) (nI 0) (nI 0) bts us act rd rs) H := hP
            have hD : va_D (xA 15 ad s.heap.size) (xw ad cd w wr fl pw sc lw rot vb (nI 0) (nI 0) lv row (-1) (nI 0) (nI 0) (nI 0) bts us act rd rs) := hD
            exact W.vret hx hb hr (fun t ht hW => ⟨⟨lv, rfl, fun i hi => hf i hi, ⟨by rw [ht]; exact hP, va_K.moved hW.alike hK, hD⟩⟩, hS.F ht⟩) hS.2.2 d_S_restore_136
          ·
            have c61 := cd_ge_f (by omega) (by omega) c61
            refine lv_iload_n hx hb d_S_restore_64 rfl (lv_at hl 2 rfl) ?_
            refine lv_if_eq (tgt := 83) hx hb d_S_restore_65 (by decide) (fun c65 => ?_) (fun c65 => ?_)
            ·
              refine lv_iconst (v := nI 0) hx hb d_S_restore_83 (by decide) ?_
              refine lv_istore_n hx hb d_S_restore_84 rfl hl (by decide) rfl (fun ls hl => ?_)
              have hl : lv_has ls 5 [(3, .int (nI 0)), (0, .ref (ad 1)), (1, .ref (ad 3)), (4, .int (nI k))] := hl
              refine lv_iload_n hx hb d_S_restore_85 rfl (lv_at hl 0 rfl) ?_
              refine lv_if_eq (tgt := 114) hx hb d_S_restore_86 (by decide) (fun c86 => ?_) (fun c86 => ?_)
              ·
                refine lv_aload_n hx hb d_S_restore_114 rfl (lv_at hl 1 rfl) ?_
                refine va_get (D := (dC, dI)) (ci := 3) (v := .ref (ad 6)) (C := R_S) (T := F_S) (N := 7) hx hb hts (fun w h => List.mem_cons_of_mem _ (in_S w h)) hown hK hP 1 rfl rfl 1 (by decide) (hts (.fieldLink R_S 18 R_S "livePages" "[I") (List.mem_cons_of_mem _ t_53)) (fun _ h9 => h9) rfl d_S_restore_115 ?_
                refine lv_iload hx hb d_S_restore_118 (lv_at hl 3 rfl) ?_
                refine lv_iconst (v := (-1)) hx hb d_S_restore_120 (by decide) ?_
                refine va_iast hx hb hK hP hD hS 6 1 rfl rfl (vp_in_nI (by omega) (by decide)) d_S_restore_121 (fun H locs hP hD hS => ?_)
                rw [nI_clamp (by omega)] at hP hD
                have hP : va_P (dC, dI) vwCl (xw ad cd w wr fl pw sc lw rot vb (nI 0) (nI 0) (upd lv k (-1)) row (-1) (nI 0) dur (nI 0) bts us act rd rs) H := hP
                have hD : va_D (xA 15 ad s.heap.size) (xw ad cd w wr fl pw sc lw rot vb (nI 0) (nI 0) (upd lv k (-1)) row (-1) (nI 0) dur (nI 0) bts us act rd rs) := hD
                refine lv_iinc (k := 3) (v := nI (k + 1)) hx hb d_S_restore_122 hl rfl (nI_1 _) (by decide) rfl (fun ls hl => ?_)
                have hl : lv_has ls 5 [(4, .int (nI (k + 1))), (3, .int (nI 0)), (0, .ref (ad 1)), (1, .ref (ad 3))] := hl
                refine lv_goto (tgt := 57) hx hb d_S_restore_125 (by decide) ?_
                exact ih57 (k + 1) (nI 0) (upd lv k (-1)) H locs ls (by omega) (by omega) (upd_all hf) (lv_sub hl [2, 3, 1, 0] rfl) hP hD hS
              ·
                exact absurd c86 (by decide)
            ·
              refine lv_aload_n hx hb d_S_restore_68 rfl (lv_at hl 0 rfl) ?_
              refine va_get (D := (dC, dI)) (ci := 3) (v := .ref (ad 6)) (C := R_S) (T := F_S) (N := 7) hx hb hts (fun w h => List.mem_cons_of_mem _ (in_S w h)) hown hK hP 1 rfl rfl 1 (by decide) (hts (.fieldLink R_S 18 R_S "livePages" "[I") (List.mem_cons_of_mem _ t_53)) (fun _ h9 => h9) rfl d_S_restore_69 ?_
              refine lv_iload hx hb d_S_restore_72 (lv_at hl 3 rfl) ?_
              refine va_iald hx hb hK hP 6 1 rfl rfl (vp_in_nI (by omega) (by decide)) d_S_restore_74 ?_
              refine tp_i (y := lv k) (by rw [nI_clamp (by omega)]) ?_
              refine lv_iconst (v := (-1)) hx hb d_S_restore_75 (by decide) ?_
              refine lv_icmp_eq (tgt := 83) hx hb d_S_restore_76 (by decide) (fun c76 => ?_) (fun c76 => ?_)
              ·
                refine lv_iconst (v := nI 0) hx hb d_S_restore_83 (by decide) ?_
                refine lv_istore_n hx hb d_S_restore_84 rfl hl (by decide) rfl (fun ls hl => ?_)
                have hl : lv_has ls 5 [(3, .int (nI 0)), (0, .ref (ad 1)), (1, .ref (ad 3)), (4, .int (nI k))] := hl
                refine lv_iload_n hx hb d_S_restore_85 rfl (lv_at hl 0 rfl) ?_
                refine lv_if_eq (tgt := 114) hx hb d_S_restore_86 (by decide) (fun c86 => ?_) (fun c86 => ?_)
                ·
                  refine lv_aload_n hx hb d_S_restore_114 rfl (lv_at hl 1 rfl) ?_
                  refine va_get (D := (dC, dI)) (ci := 3) (v := .ref (ad 6)) (C := R_S) (T := F_S) (N := 7) hx hb hts (fun w h => List.mem_cons_of_mem _ (in_S w h)) hown hK hP 1 rfl rfl 1 (by decide) (hts (.fieldLink R_S 18 R_S "livePages" "[I") (List.mem_cons_of_mem _ t_53)) (fun _ h9 => h9) rfl d_S_restore_115 ?_
                  refine lv_iload hx hb d_S_restore_118 (lv_at hl 3 rfl) ?_
                  refine lv_iconst (v := (-1)) hx hb d_S_restore_120 (by decide) ?_
                  refine va_iast hx hb hK hP hD hS 6 1 rfl rfl (vp_in_nI (by omega) (by decide)) d_S_restore_121 (fun H locs hP hD hS => ?_)
                  rw [nI_clamp (by omega)] at hP hD
                  have hP : va_P (dC, dI) vwCl (xw ad cd w wr fl pw sc lw rot vb (nI 0) (nI 0) (upd lv k (-1)) row (-1) (nI 0) dur (nI 0) bts us act rd rs) H := hP
                  have hD : va_D (xA 15 ad s.heap.size) (xw ad cd w wr fl pw sc lw rot vb (nI 0) (nI 0) (upd lv k (-1)) row (-1) (nI 0) dur (nI 0) bts us act rd rs) := hD
                  refine lv_iinc (k := 3) (v := nI (k + 1)) hx hb d_S_restore_122 hl rfl (nI_1 _) (by decide) rfl (fun ls hl => ?_)
                  have hl : lv_has ls 5 [(4, .int (nI (k + 1))), (3, .int (nI 0)), (0, .ref (ad 1)), (1, .ref (ad 3))] := hl
                  refine lv_goto (tgt := 57) hx hb d_S_restore_125 (by decide) ?_
                  exact ih57 (k + 1) (nI 0) (upd lv k (-1)) H locs ls (by omega) (by omega) (upd_all hf) (lv_sub hl [2, 3, 1, 0] rfl) hP hD hS
                ·
                  exact absurd c86 (by decide)
              ·
                exact absurd (hf k (by omega)) c76
      exact lp57 _ 0 (nI 1) u1 H locs ls (Nat.lt_succ_self _) (by omega) hlv (lv_sub hl [3, 4, 1, 0] rfl) hP hD hS
set_option maxHeartbeats 4000000 in
set_option maxRecDepth 100000 in
theorem c_R_forgetReadings (l : Launch) (dC : Nat → ClassId) (dI : Nat → Nat → Nat) (ad cd : Nat → Nat) (sz : Nat) (w wr fl : Nat → Int32) (pw sc : Int32) (lw rot vb : Nat → Int32) (rec tk : Int32) (live row : Nat → Int32) (cur ser dur wo : Int32) (bts : Nat → Int32) (us : Int32) (act : Nat → Int32) (rd rs : Int32)  : Met l y_R_forgetReadings w_R_forgetReadings ({ frames := 0, cells := 0, slots := 0, locals := 0 }) (xP (dC, dI) vwCl (xt cd) (xw ad cd w wr fl pw sc lw rot vb rec tk live row cur ser dur wo bts us act rd rs) sz [.ref (ad 0)]) (va_Qv (fun (u : Unit) => True) (fun (u : Unit) (t : State) => xB (dC, dI) vwCl (xt cd) (xA 15 ad sz) (xw ad cd w wr fl pw sc lw rot vb rec tk live row cur ser dur wo bts us act (nI 0) (nI 0)) t) (xA 15 ad sz)) 0 0 (xA 15 ad sz) := by
  refine Met.ofW (cc := b_R_forgetReadings) (maxL := 1) (ret := none) (by decide) rfl ?_
  intro P e s m args below meth c0 s₁ B hml hv
  obtain ⟨rfl, hsz, hP, hK, hD0⟩ := hv
  have hx := B.exec
  have hb := B.bytes
  have hr := B.returns
  have hts := atoms_spec (ws := w_R_forgetReadings) B.pre
  have hown : s.vm.findClass R_R = some m.cls := findClass_of_methodNamed B.named
  have hlocks := B.notSynchronized
  subst hsz
  have hD := xw_D (sz := s.heap.size) hD0
  have hS : va_S (xA 15 ad s.heap.size) s.heap s.heap [] := va_S.rf
  have hA : ∀ q : Nat, s.heap.size ≤ q → (xA 15 ad s.heap.size) q := fun q h => Or.inr h
  have hl := lv_entry ([.ref (ad 0)]) (n := 1) (Nat.le_of_ble_eq_true rfl)
  rw [lg_entry_eq]
  generalize (lg_sl ([.ref (ad 0)]) ++ List.replicate (1 - (lg_sl ([.ref (ad 0)])).length) Slot.unset).toArray = ls at hl ⊢
  have hl : lv_has ls 1 [(0, .ref (ad 0))] := hl
  refine lv_aload_n hx hb d_R_forgetReadings_0 rfl (lv_at hl 0 rfl) ?_
  refine lv_iconst (v := nI 0) hx hb d_R_forgetReadings_1 (by decide) ?_
  refine va_put (D := (dC, dI)) (ci := 4) (v := .int (nI 0)) (ty := .int) (C := R_R) (T := F_R) (N := 7) hx hb hts (fun w h => List.mem_cons_of_mem _ (in_R w h)) t_R ok_R nm_R hown hK hP hD hS 0 rfl rfl 5 (by decide) (hts (.fieldLink R_R 41 R_R "readings" "I") (List.mem_cons_of_mem _ t_119)) (fun _ h9 => h9) rfl (by decide +kernel) rfl rfl (Nat.le_of_ble_eq_true rfl) d_R_forgetReadings_2 (fun H locs hP hD hS => ?_)
  have hP : va_P (dC, dI) vwCl (xw ad cd w wr fl pw sc lw rot vb rec tk live row cur ser dur wo bts us act (nI 0) rs) H := hP
  have hD : va_D (xA 15 ad s.heap.size) (xw ad cd w wr fl pw sc lw rot vb rec tk live row cur ser dur wo bts us act (nI 0) rs) := hD
  refine lv_aload_n hx hb d_R_forgetReadings_5 rfl (lv_at hl 0 rfl) ?_
  refine lv_iconst (v := nI 0) hx hb d_R_forgetReadings_6 (by decide) ?_
  refine va_put (D := (dC, dI)) (ci := 4) (v := .int (nI 0)) (ty := .int) (C := R_R) (T := F_R) (N := 7) hx hb hts (fun w h => List.mem_cons_of_mem _ (in_R w h)) t_R ok_R nm_R hown hK hP hD hS 0 rfl rfl 6 (by decide) (hts (.fieldLink R_R 45 R_R "readSteps" "I") (List.mem_cons_of_mem _ t_120)) (fun _ h9 => h9) rfl (by decide +kernel) rfl rfl (Nat.le_of_ble_eq_true rfl) d_R_forgetReadings_7 (fun H locs hP hD hS => ?_)
  have hP : va_P (dC, dI) vwCl (xw ad cd w wr fl pw sc lw rot vb rec tk live row cur ser dur wo bts us act (nI 0) (nI 0)) H := hP
  have hD : va_D (xA 15 ad s.heap.size) (xw ad cd w wr fl pw sc lw rot vb rec tk live row cur ser dur wo bts us act (nI 0) (nI 0)) := hD
  exact W.vret hx hb hr (fun t ht hW => ⟨⟨(), rfl, by first | rfl | trivial | omega, ⟨by rw [ht]; exact hP, va_K.moved hW.alike hK, hD⟩⟩, hS.F ht⟩) hS.2.2 d_R_forgetReadings_10
set_option maxHeartbeats 4000000 in
set_option maxRecDepth 100000 in
theorem c_R_crash (l : Launch) (dC : Nat → ClassId) (dI : Nat → Nat → Nat) (ad cd : Nat → Nat) (sz : Nat) (w wr fl : Nat → Int32) (pw sc : Int32) (lw rot vb : Nat → Int32) (rec tk : Int32) (live row : Nat → Int32) (cur ser dur wo : Int32) (bts : Nat → Int32) (us : Int32) (act : Nat → Int32) (rd rs : Int32)  : Met l y_R_crash w_R_crash ({ frames := 1, cells := 0, slots := 0, locals := 20 }) (xP (dC, dI) vwCl (xt cd) (xw ad cd w wr fl (nI 1) (-1) lw rot vb (nI 0) (nI 0) live row (-1) (nI 0) (nI 0) (nI 0) bts (nI 0) act (nI 0) (nI 0)) sz [.ref (ad 0)]) (va_Qv (fun (u : Unit) => True) (fun (u : Unit) (t : State) => xB (dC, dI) vwCl (xt cd) (xA 15 ad sz) (xw ad cd w wr fl (nI 0) (-1) lw rot vb (nI 0) (nI 0) live row (-1) (nI 0) (nI 0) (nI 0) bts (nI 0) act (nI 0) (nI 0)) t) (xA 15 ad sz)) 0 0 (xA 15 ad sz) := by
  refine Met.ofW (cc := b_R_crash) (maxL := 1) (ret := none) (by decide) rfl ?_
  intro P e s m args below meth c0 s₁ B hml hv
  obtain ⟨rfl, hsz, hP, hK, hD0⟩ := hv
  have hx := B.exec
  have hb := B.bytes
  have hr := B.returns
  have hts := atoms_spec (ws := w_R_crash) B.pre
  have hown : s.vm.findClass R_R = some m.cls := findClass_of_methodNamed B.named
  have hlocks := B.notSynchronized
  subst hsz
  have hD := xw_D (sz := s.heap.size) hD0
  have hS : va_S (xA 15 ad s.heap.size) s.heap s.heap [] := va_S.rf
  have hA : ∀ q : Nat, s.heap.size ≤ q → (xA 15 ad s.heap.size) q := fun q h => Or.inr h
  have hl := lv_entry ([.ref (ad 0)]) (n := 1) (Nat.le_of_ble_eq_true rfl)
  rw [lg_entry_eq]
  generalize (lg_sl ([.ref (ad 0)]) ++ List.replicate (1 - (lg_sl ([.ref (ad 0)])).length) Slot.unset).toArray = ls at hl ⊢
  have hl : lv_has ls 1 [(0, .ref (ad 0))] := hl
  refine lv_aload_n hx hb d_R_crash_0 rfl (lv_at hl 0 rfl) ?_
  refine va_get (D := (dC, dI)) (ci := 4) (v := .ref (ad 2)) (C := R_R) (T := F_R) (N := 7) hx hb hts (fun w h => List.mem_cons_of_mem _ (in_R w h)) hown hK hP 0 rfl rfl 1 (by decide) (hts (.fieldLink R_R 20 R_R "chip" "LWeighRecorder$Chip;") (List.mem_cons_of_mem _ t_115)) (fun _ h9 => h9) rfl d_R_crash_1 ?_
  have hSz := hS.1
  refine va_callv (va_runV (C := R_C) (As := []) (rest := []) ⟨hx, hb, hml, hown, hts⟩ (c_C_turnOff l dC dI ad cd s.heap.size w wr fl (nI 1) (-1) lw rot vb (nI 0) (nI 0) live row (-1) (nI 0) (nI 0) (nI 0) bts (nI 0) act (nI 0) (nI 0)  ) (cwV 0 hts (g_V t_140 t_141 t_142 t_3 t_143) rfl rfl rfl (by decide +kernel) ⟨by decide, by decide⟩) (xP_v hP hK hD 2 rfl rfl) rfl rfl hl.1 rfl (lv_room (Nat.le_of_ble_eq_true rfl)) d_R_crash_4 ⟨Nat.le_refl _, Nat.le_refl _⟩) hS (fun q _ h => xA_up hS.1 q h) (fun q h => xA_up hS.1 q h) (fun u4 t H1 locs1 ht hvm q4 hB hz1 hk1 hS => ?_)
  obtain ⟨hP1, hK1, hD1⟩ := hB
  rw [ht] at hP1
  have hD : va_D (xA 15 ad s.heap.size) (xw ad cd w wr fl (nI 0) (-1) lw rot vb (nI 0) (nI 0) live row (-1) (nI 0) (nI 0) (nI 0) bts (nI 0) act (nI 0) (nI 0)) := hD1.weaken (fun _ q _ h => xA_up hSz _ h)
  have hP : va_P (dC, dI) vwCl (xw ad cd w wr fl (nI 0) (-1) lw rot vb (nI 0) (nI 0) live row (-1) (nI 0) (nI 0) (nI 0) bts (nI 0) act (nI 0) (nI 0)) H1 := hP1
  generalize H1 = H at hP hS ⊢
  generalize locs1 = locs at hS ⊢
  exact W.vret hx hb hr (fun t ht hW => ⟨⟨(), rfl, by first | rfl | trivial | omega, ⟨by rw [ht]; exact hP, va_K.moved hW.alike hK, hD⟩⟩, hS.F ht⟩) hS.2.2 d_R_crash_7
set_option maxHeartbeats 4000000 in
set_option maxRecDepth 100000 in
theorem c_R_mount_f (l : Launch) (dC : Nat → ClassId) (dI : Nat → Nat → Nat) (ad cd : Nat → Nat) (sz : Nat) (w wr fl : Nat → Int32) (pw sc : Int32) (lw rot vb : Nat → Int32) (rec tk : Int32) (live row : Nat → Int32) (cur ser dur wo : Int32) (bts : Nat → Int32) (us : Int32) (act : Nat → Int32) (rd rs : Int32)  (hw : ∀ i, i < 512 → w i = -1) : Met l y_R_mount w_R_mount ({ frames := 4, cells := 0, slots := 0, locals := 91 }) (xP (dC, dI) vwCl (xt cd) (xw ad cd w wr fl (nI 1) (-1) lw rot vb (nI 0) (nI 0) live row (-1) (nI 0) (nI 0) (nI 0) bts (nI 0) act (nI 0) (nI 0)) sz [.ref (ad 0)]) (va_Qi (fun r (u : Nat → Int32) => r = nI 0) (fun (u : Nat → Int32) (t : State) => xB (dC, dI) vwCl (xt cd) (xA 15 ad sz) (xw ad cd w wr fl (nI 1) (-1) lw rot vb (nI 0) (nI 0) u row (-1) (nI 0) (nI 0) (nI 0) bts (nI 0) act (nI 0) (nI 0)) t) (xA 15 ad sz)) 0 0 (xA 15 ad sz) := by
  refine Met.ofW (cc := b_R_mount) (maxL := 1) (ret := (some (.int))) (by decide) rfl ?_
  intro P e s m args below meth c0 s₁ B hml hv
  obtain ⟨rfl, hsz, hP, hK, hD0⟩ := hv
  have hx := B.exec
  have hb := B.bytes
  have hr := B.returns
  have hts := atoms_spec (ws := w_R_mount) B.pre
  have hown : s.vm.findClass R_R = some m.cls := findClass_of_methodNamed B.named
  have hlocks := B.notSynchronized
  subst hsz
  have hD := xw_D (sz := s.heap.size) hD0
  have hS : va_S (xA 15 ad s.heap.size) s.heap s.heap [] := va_S.rf
  have hA : ∀ q : Nat, s.heap.size ≤ q → (xA 15 ad s.heap.size) q := fun q h => Or.inr h
  have hl := lv_entry ([.ref (ad 0)]) (n := 1) (Nat.le_of_ble_eq_true rfl)
  rw [lg_entry_eq]
  generalize (lg_sl ([.ref (ad 0)]) ++ List.replicate (1 - (lg_sl ([.ref (ad 0)])).length) Slot.unset).toArray = ls at hl ⊢
  have hl : lv_has ls 1 [(0, .ref (ad 0))] := hl
  refine lv_aload_n hx hb d_R_mount_0 rfl (lv_at hl 0 rfl) ?_
  refine va_get (D := (dC, dI)) (ci := 4) (v := .ref (ad 2)) (C := R_R) (T := F_R) (N := 7) hx hb hts (fun w h => List.mem_cons_of_mem _ (in_R w h)) hown hK hP 0 rfl rfl 1 (by decide) (hts (.fieldLink R_R 20 R_R "chip" "LWeighRecorder$Chip;") (List.mem_cons_of_mem _ t_115)) (fun _ h9 => h9) rfl d_R_mount_1 ?_
  have hSz := hS.1
  refine va_callv (va_runV (C := R_C) (As := []) (rest := []) ⟨hx, hb, hml, hown, hts⟩ (c_C_turnOff l dC dI ad cd s.heap.size w wr fl (nI 1) (-1) lw rot vb (nI 0) (nI 0) live row (-1) (nI 0) (nI 0) (nI 0) bts (nI 0) act (nI 0) (nI 0)  ) (cwV 0 hts (g_V t_140 t_141 t_142 t_3 t_143) rfl rfl rfl (by decide +kernel) ⟨by decide, by decide⟩) (xP_v hP hK hD 2 rfl rfl) rfl rfl hl.1 rfl (lv_room (Nat.le_of_ble_eq_true rfl)) d_R_mount_4 ⟨Nat.le_refl _, Nat.le_refl _⟩) hS (fun q _ h => xA_up hS.1 q h) (fun q h => xA_up hS.1 q h) (fun u4 t H1 locs1 ht hvm q4 hB hz1 hk1 hS => ?_)
  obtain ⟨hP1, hK1, hD1⟩ := hB
  rw [ht] at hP1
  have hD : va_D (xA 15 ad s.heap.size) (xw ad cd w wr fl (nI 0) (-1) lw rot vb (nI 0) (nI 0) live row (-1) (nI 0) (nI 0) (nI 0) bts (nI 0) act (nI 0) (nI 0)) := hD1.weaken (fun _ q _ h => xA_up hSz _ h)
  have hP : va_P (dC, dI) vwCl (xw ad cd w wr fl (nI 0) (-1) lw rot vb (nI 0) (nI 0) live row (-1) (nI 0) (nI 0) (nI 0) bts (nI 0) act (nI 0) (nI 0)) H1 := hP1
  generalize H1 = H at hP hS ⊢
  generalize locs1 = locs at hS ⊢
  refine lv_aload_n hx hb d_R_mount_7 rfl (lv_at hl 0 rfl) ?_
  have hSz := hS.1
  refine va_callv (va_runV (C := R_R) (As := []) (rest := []) ⟨hx, hb, hml, hown, hts⟩ (c_R_forgetReadings l dC dI ad cd H.size w wr fl (nI 0) (-1) lw rot vb (nI 0) (nI 0) live row (-1) (nI 0) (nI 0) (nI 0) bts (nI 0) act (nI 0) (nI 0)  ) (cwV 0 hts (g_V t_148 t_150 s_0 t_1 t_151) rfl rfl rfl (by decide +kernel) ⟨by decide, by decide⟩) (xP_v hP hK hD 0 rfl rfl) rfl rfl hl.1 rfl (lv_room (Nat.le_of_ble_eq_true rfl)) d_R_mount_8 ⟨Nat.le_refl _, Nat.le_refl _⟩) hS (fun q _ h => xA_up hS.1 q h) (fun q h => xA_up hS.1 q h) (fun u8 t H1 locs1 ht hvm q8 hB hz1 hk1 hS => ?_)
  obtain ⟨hP1, hK1, hD1⟩ := hB
  rw [ht] at hP1
  have hD : va_D (xA 15 ad s.heap.size) (xw ad cd w wr fl (nI 0) (-1) lw rot vb (nI 0) (nI 0) live row (-1) (nI 0) (nI 0) (nI 0) bts (nI 0) act (nI 0) (nI 0)) := hD1.weaken (fun _ q _ h => xA_up hSz _ h)
  have hP : va_P (dC, dI) vwCl (xw ad cd w wr fl (nI 0) (-1) lw rot vb (nI 0) (nI 0) live row (-1) (nI 0) (nI 0) (nI 0) bts (nI 0) act (nI 0) (nI 0)) H1 := hP1
  generalize H1 = H at hP hS ⊢
  generalize locs1 = locs at hS ⊢
  refine lv_aload_n hx hb d_R_mount_11 rfl (lv_at hl 0 rfl) ?_
  refine va_get (D := (dC, dI)) (ci := 4) (v := .ref (ad 1)) (C := R_R) (T := F_R) (N := 7) hx hb hts (fun w h => List.mem_cons_of_mem _ (in_R w h)) hown hK hP 0 rfl rfl 0 (by decide) (hts (.fieldLink R_R 12 R_R "store" "LWeighRecorder$Store;") (List.mem_cons_of_mem _ t_114)) (fun _ h9 => h9) rfl d_R_mount_12 ?_
  refine lv_aload_n hx hb d_R_mount_15 rfl (lv_at hl 0 rfl) ?_
  refine va_get (D := (dC, dI)) (ci := 4) (v := .ref (ad 3)) (C := R_R) (T := F_R) (N := 7) hx hb hts (fun w h => List.mem_cons_of_mem _ (in_R w h)) hown hK hP 0 rfl rfl 2 (by decide) (hts (.fieldLink R_R 26 R_R "log" "LWeighRecorder$Log;") (List.mem_cons_of_mem _ t_116)) (fun _ h9 => h9) rfl d_R_mount_16 ?_
  have hSz := hS.1
  refine va_callv (va_runV (C := R_S) (As := [.ref (ad 3)]) (rest := []) ⟨hx, hb, hml, hown, hts⟩ (c_S_restore_f l dC dI ad cd H.size w wr fl (nI 0) (-1) lw rot vb (nI 0) (nI 0) live row (-1) (nI 0) (nI 0) (nI 0) bts (nI 0) act (nI 0) (nI 0)  (by first | omega | rfl | assumption | decide)) (cwV 1 hts (g_V t_152 t_153 t_154 t_2 t_155) rfl rfl rfl (by decide +kernel) ⟨by decide, by decide⟩) (xP_v hP hK hD 1 rfl rfl) rfl rfl hl.1 rfl (lv_room (Nat.le_of_ble_eq_true rfl)) d_R_mount_19 ⟨Nat.le_refl _, Nat.le_refl _⟩) hS (fun q _ h => xA_up hS.1 q h) (fun q h => xA_up hS.1 q h) (fun u19 t H1 locs1 ht hvm q19 hB hz1 hk1 hS => ?_)
  obtain ⟨hP1, hK1, hD1⟩ := hB
  rw [ht] at hP1
  have hD : va_D (xA 15 ad s.heap.size) (xw ad cd w wr fl (nI 0) (-1) lw rot vb (nI 0) (nI 0) u19 row (-1) (nI 0) (nI 0) (nI 0) bts (nI 0) act (nI 0) (nI 0)) := hD1.weaken (fun _ q _ h => xA_up hSz _ h)
  have hP : va_P (dC, dI) vwCl (xw ad cd w wr fl (nI 0) (-1) lw rot vb (nI 0) (nI 0) u19 row (-1) (nI 0) (nI 0) (nI 0) bts (nI 0) act (nI 0) (nI 0)) H1 := hP1
  generalize H1 = H at hP hS ⊢
  generalize locs1 = locs at hS ⊢
  refine lv_aload_n hx hb d_R_mount_22 rfl (lv_at hl 0 rfl) ?_
  refine va_get (D := (dC, dI)) (ci := 4) (v := .ref (ad 2)) (C := R_R) (T := F_R) (N := 7) hx hb hts (fun w h => List.mem_cons_of_mem _ (in_R w h)) hown hK hP 0 rfl rfl 1 (by decide) (hts (.fieldLink R_R 20 R_R "chip" "LWeighRecorder$Chip;") (List.mem_cons_of_mem _ t_115)) (fun _ h9 => h9) rfl d_R_mount_23 ?_
  have hSz := hS.1
  refine va_callv (va_runV (C := R_C) (As := []) (rest := []) ⟨hx, hb, hml, hown, hts⟩ (c_C_turnOn l dC dI ad cd H.size w wr fl (nI 0) (-1) lw rot vb (nI 0) (nI 0) u19 row (-1) (nI 0) (nI 0) (nI 0) bts (nI 0) act (nI 0) (nI 0)  ) (cwV 0 hts (g_V t_213 t_214 t_215 t_3 t_216) rfl rfl rfl (by decide +kernel) ⟨by decide, by decide⟩) (xP_v hP hK hD 2 rfl rfl) rfl rfl hl.1 rfl (lv_room (Nat.le_of_ble_eq_true rfl)) d_R_mount_26 ⟨Nat.le_refl _, Nat.le_refl _⟩) hS (fun q _ h => xA_up hS.1 q h) (fun q h => xA_up hS.1 q h) (fun u26 t H1 locs1 ht hvm q26 hB hz1 hk1 hS => ?_)
  obtain ⟨hP1, hK1, hD1⟩ := hB
  rw [ht] at hP1
  have hD : va_D (xA 15 ad s.heap.size) (xw ad cd w wr fl (nI 1) (-1) lw rot vb (nI 0) (nI 0) u19 row (-1) (nI 0) (nI 0) (nI 0) bts (nI 0) act (nI 0) (nI 0)) := hD1.weaken (fun _ q _ h => xA_up hSz _ h)
  have hP : va_P (dC, dI) vwCl (xw ad cd w wr fl (nI 1) (-1) lw rot vb (nI 0) (nI 0) u19 row (-1) (nI 0) (nI 0) (nI 0) bts (nI 0) act (nI 0) (nI 0)) H1 := hP1
  generalize H1 = H at hP hS ⊢
  generalize locs1 = locs at hS ⊢
  refine lv_aload_n hx hb d_R_mount_29 rfl (lv_at hl 0 rfl) ?_
  refine va_get (D := (dC, dI)) (ci := 4) (v := .ref (ad 3)) (C := R_R) (T := F_R) (N := 7) hx hb hts (fun w h => List.mem_cons_of_mem _ (in_R w h)) hown hK hP 0 rfl rfl 2 (by decide) (hts (.fieldLink R_R 26 R_R "log" "LWeighRecorder$Log;") (List.mem_cons_of_mem _ t_116)) (fun _ h9 => h9) rfl d_R_mount_30 ?_
  refine vp_callSi (va_runV (C := R_G) (As := []) (rest := []) ⟨hx, hb, hml, hown, hts⟩ (c_G_ticketCount l dC dI ad cd w wr fl (nI 1) (-1) lw rot vb (nI 0) (nI 0) u19 row (-1) (nI 0) (nI 0) (nI 0) bts (nI 0) act (nI 0) (nI 0)  ) (cwV 0 hts (g_V t_217 t_218 t_219 t_4 t_220) rfl rfl rfl (by decide +kernel) ⟨by decide, by decide⟩) (xR_v hP hK 3 rfl rfl) rfl rfl hl.1 rfl (lv_room (Nat.le_of_ble_eq_true rfl)) d_R_mount_33 ⟨Nat.le_refl _, Nat.le_refl _⟩).run (fun r33 q33 => ?_)
  subst q33
  exact W.iret (v := nI 0) hx hb hr (fun t ht hW => ⟨⟨nI 0, u19, rfl, by first | rfl | trivial | omega, ⟨by rw [ht]; exact hP, va_K.moved hW.alike hK, hD⟩⟩, hS.F ht⟩) hS.2.2 d_R_mount_36
end
section
set_option maxHeartbeats 4000000 in
set_option maxRecDepth 100000 in
theorem c_M_thrown (l : Launch) (dC : Nat → ClassId) (dI : Nat → Nat → Nat) (am cm : Nat → Nat) (th : Int32) (mw mwr mfl mact : Nat → Int32) (on cut mrec : Int32) (mlog mlive had : Nat → Int32) (mser mcur mrd mwt worn : Int32) (pg : Nat → Int32) (pla sou fou : Int32)  : Met l y_M_thrown w_M_thrown ({ frames := 0, cells := 0, slots := 0, locals := 0 }) (xR (dC, dI) vwCl (mt cm) (mw_ am cm th mw mwr mfl mact on cut mrec mlog mlive had mser mcur mrd mwt worn pg pla sou fou) [.ref (am 0)]) (vp_Si (fun r => r = th)) 0 0 (fun _ => False) := by
  refine Met.ofW (cc := b_M_thrown) (maxL := 1) (ret := (some (.int))) (by decide) rfl ?_
  intro P e s m args below meth c0 s₁ B hml hv
  obtain ⟨rfl, hP, hK⟩ := hv
  have hx := B.exec
  have hb := B.bytes
  have hr := B.returns
  have hts := atoms_spec (ws := w_M_thrown) B.pre
  have hown : s.vm.findClass R_M = some m.cls := findClass_of_methodNamed B.named
  have hlocks := B.notSynchronized
  have hl := lv_entry ([.ref (am 0)]) (n := 1) (Nat.le_of_ble_eq_true rfl)
  rw [lg_entry_eq]
  generalize (lg_sl ([.ref (am 0)]) ++ List.replicate (1 - (lg_sl ([.ref (am 0)])).length) Slot.unset).toArray = ls at hl ⊢
  have hl : lv_has ls 1 [(0, .ref (am 0))] := hl
  refine lv_aload_n hx hb d_M_thrown_0 rfl (lv_at hl 0 rfl) ?_
  refine va_get (D := (dC, dI)) (ci := 5) (v := .int th) (C := R_M) (T := F_M) (N := 20) hx hb hts (fun w h => List.mem_cons_of_mem _ (in_M w h)) hown hK hP 0 rfl rfl 0 (by decide) (hts (.fieldLink R_M 49 R_M "thrown" "I") (List.mem_cons_of_mem _ t_712)) (fun _ h9 => h9) rfl d_M_thrown_1 ?_
  exact W.iret (v := th) hx hb hr (fun t ht hW => ⟨th, rfl, by first | rfl | trivial | omega, ht⟩) (fun q hq => by cases hq) d_M_thrown_4
set_option maxHeartbeats 4000000 in
set_option maxRecDepth 100000 in
theorem c_M_isIn (l : Launch) (dC : Nat → ClassId) (dI : Nat → Nat → Nat)  (v lo hi : Int32) : Met l y_M_isIn w_M_isIn ({ frames := 0, cells := 0, slots := 0, locals := 0 }) (xR (dC, dI) vwCl [] [] [.int v, .int lo, .int hi]) (vp_Si (fun r => (r = 1 ∧ (lo ≤ v ∧ v ≤ hi)) ∨ (r = 0 ∧ ¬ (lo ≤ v ∧ v ≤ hi)))) 0 0 (fun _ => False) := by
  refine Met.ofW (cc := b_M_isIn) (maxL := 3) (ret := (some (.boolean))) (by decide) rfl ?_
  intro P e s m args below meth c0 s₁ B hml hv
  obtain ⟨rfl, hP, hK⟩ := hv
  have hx := B.exec
  have hb := B.bytes
  have hr := B.returns
  have hts := atoms_spec (ws := w_M_isIn) B.pre
  have hown : s.vm.findClass R_M = some m.cls := findClass_of_methodNamed B.named
  have hlocks := B.notSynchronized
  have hl := lv_entry ([.int v, .int lo, .int hi]) (n := 3) (Nat.le_of_ble_eq_true rfl)
  rw [lg_entry_eq]
  generalize (lg_sl ([.int v, .int lo, .int hi]) ++ List.replicate (3 - (lg_sl ([.int v, .int lo, .int hi])).length) Slot.unset).toArray = ls at hl ⊢
  have hl : lv_has ls 3 [(0, .int v), (1, .int lo), (2, .int hi)] := hl
  refine lv_iload_n hx hb d_M_isIn_0 rfl (lv_at hl 0 rfl) ?_
  refine lv_iload_n hx hb d_M_isIn_1 rfl (lv_at hl 1 rfl) ?_
  refine lv_icmp_lt (tgt := 14) hx hb d_M_isIn_2 (by decide) (fun c2 => ?_) (fun c2 => ?_)
  ·
    refine lv_iconst (v := 0) hx hb d_M_isIn_14 (by decide) ?_
    exact W.zret (v := 0) hx hb hr (by first | rfl | decide | assumption) (fun t ht hW => ⟨0, rfl, Or.inr ⟨rfl, fun z => by first | exact absurd z.1 (Int32.not_le.mpr c2) | exact absurd z.2 (Int32.not_le.mpr c7)⟩, ht⟩) (fun q hq => by cases hq) d_M_isIn_15
  ·
    refine lv_iload_n hx hb d_M_isIn_5 rfl (lv_at hl 0 rfl) ?_
    refine lv_iload_n hx hb d_M_isIn_6 rfl (lv_at hl 2 rfl) ?_
    refine lv_icmp_gt (tgt := 14) hx hb d_M_isIn_7 (by decide) (fun c7 => ?_) (fun c7 => ?_)
    ·
      refine lv_iconst (v := 0) hx hb d_M_isIn_14 (by decide) ?_
      exact W.zret (v := 0) hx hb hr (by first | rfl | decide | assumption) (fun t ht hW => ⟨0, rfl, Or.inr ⟨rfl, fun z => by first | exact absurd z.1 (Int32.not_le.mpr c2) | exact absurd z.2 (Int32.not_le.mpr c7)⟩, ht⟩) (fun q hq => by cases hq) d_M_isIn_15
    ·
      refine lv_iconst (v := 1) hx hb d_M_isIn_10 (by decide) ?_
      refine lv_goto (tgt := 15) hx hb d_M_isIn_11 (by decide) ?_
      exact W.zret (v := 1) hx hb hr (by first | rfl | decide | assumption) (fun t ht hW => ⟨1, rfl, Or.inl ⟨rfl, Int32.not_lt.mp c2, Int32.not_lt.mp c7⟩, ht⟩) (fun q hq => by cases hq) d_M_isIn_15
set_option maxHeartbeats 4000000 in
set_option maxRecDepth 100000 in
theorem c_R_isWithin (l : Launch) (dC : Nat → ClassId) (dI : Nat → Nat → Nat)  (v lo hi : Int32) : Met l y_R_isWithin w_R_isWithin ({ frames := 0, cells := 0, slots := 0, locals := 0 }) (xR (dC, dI) vwCl [] [] [.int v, .int lo, .int hi]) (vp_Si (fun r => (r = 1 ∧ (lo ≤ v ∧ v ≤ hi)) ∨ (r = 0 ∧ ¬ (lo ≤ v ∧ v ≤ hi)))) 0 0 (fun _ => False) := by
  refine Met.ofW (cc := b_R_isWithin) (maxL := 3) (ret := (some (.boolean))) (by decide) rfl ?_
  intro P e s m args below meth c0 s₁ B hml hv
  obtain ⟨rfl, hP, hK⟩ := hv
  have hx := B.exec
  have hb := B.bytes
  have hr := B.returns
  have hts := atoms_spec (ws := w_R_isWithin) B.pre
  have hown : s.vm.findClass R_R = some m.cls := findClass_of_methodNamed B.named
  have hlocks := B.notSynchronized
  have hl := lv_entry ([.int v, .int lo, .int hi]) (n := 3) (Nat.le_of_ble_eq_true rfl)
  rw [lg_entry_eq]
  generalize (lg_sl ([.int v, .int lo, .int hi]) ++ List.replicate (3 - (lg_sl ([.int v, .int lo, .int hi])).length) Slot.unset).toArray = ls at hl ⊢
  have hl : lv_has ls 3 [(0, .int v), (1, .int lo), (2, .int hi)] := hl
  refine lv_iload_n hx hb d_R_isWithin_0 rfl (lv_at hl 0 rfl) ?_
  refine lv_iload_n hx hb d_R_isWithin_1 rfl (lv_at hl 1 rfl) ?_
  refine lv_icmp_lt (tgt := 14) hx hb d_R_isWithin_2 (by decide) (fun c2 => ?_) (fun c2 => ?_)
  ·
    refine lv_iconst (v := 0) hx hb d_R_isWithin_14 (by decide) ?_
    exact W.zret (v := 0) hx hb hr (by first | rfl | decide | assumption) (fun t ht hW => ⟨0, rfl, Or.inr ⟨rfl, fun z => by first | exact absurd z.1 (Int32.not_le.mpr c2) | exact absurd z.2 (Int32.not_le.mpr c7)⟩, ht⟩) (fun q hq => by cases hq) d_R_isWithin_15
  ·
    refine lv_iload_n hx hb d_R_isWithin_5 rfl (lv_at hl 0 rfl) ?_
    refine lv_iload_n hx hb d_R_isWithin_6 rfl (lv_at hl 2 rfl) ?_
    refine lv_icmp_gt (tgt := 14) hx hb d_R_isWithin_7 (by decide) (fun c7 => ?_) (fun c7 => ?_)
    ·
      refine lv_iconst (v := 0) hx hb d_R_isWithin_14 (by decide) ?_
      exact W.zret (v := 0) hx hb hr (by first | rfl | decide | assumption) (fun t ht hW => ⟨0, rfl, Or.inr ⟨rfl, fun z => by first | exact absurd z.1 (Int32.not_le.mpr c2) | exact absurd z.2 (Int32.not_le.mpr c7)⟩, ht⟩) (fun q hq => by cases hq) d_R_isWithin_15
    ·
      refine lv_iconst (v := 1) hx hb d_R_isWithin_10 (by decide) ?_
      refine lv_goto (tgt := 15) hx hb d_R_isWithin_11 (by decide) ?_
      exact W.zret (v := 1) hx hb hr (by first | rfl | decide | assumption) (fun t ht hW => ⟨1, rfl, Or.inl ⟨rfl, Int32.not_lt.mp c2, Int32.not_lt.mp c7⟩, ht⟩) (fun q hq => by cases hq) d_R_isWithin_15
set_option maxHeartbeats 4000000 in
set_option maxRecDepth 100000 in
theorem c_M_fails_0 (l : Launch) (dC : Nat → ClassId) (dI : Nat → Nat → Nat) (am cm : Nat → Nat) (sz : Nat) (th : Int32) (mw mwr mfl mact : Nat → Int32) (on cut mrec : Int32) (mlog mlive had : Nat → Int32) (mser mcur mrd mwt worn : Int32) (pg : Nat → Int32) (pla sou fou : Int32) (cod : Int32) : Met l y_M_fails w_M_fails ({ frames := 0, cells := 0, slots := 0, locals := 0 }) (xP (dC, dI) vwCl (mt cm) (mw_ am cm th mw mwr mfl mact on cut mrec mlog mlive had mser mcur mrd mwt worn pg pla sou fou) sz [.ref (am 0), .int cod, .int (nI 0)]) (va_Qi (fun r (u : Unit) => r = nI 0) (fun (u : Unit) (t : State) => xB (dC, dI) vwCl (mt cm) (xA 9 am sz) (mw_ am cm (nI 0) mw mwr mfl mact on cut mrec mlog mlive had mser mcur mrd mwt worn pg pla sou fou) t) (xA 9 am sz)) 0 0 (xA 9 am sz) := by
  refine Met.ofW (cc := b_M_fails) (maxL := 3) (ret := (some (.boolean))) (by decide) rfl ?_
  intro P e s m args below meth c0 s₁ B hml hv
  obtain ⟨rfl, hsz, hP, hK, hD0⟩ := hv
  have hx := B.exec
  have hb := B.bytes
  have hr := B.returns
  have hts := atoms_spec (ws := w_M_fails) B.pre
  have hown : s.vm.findClass R_M = some m.cls := findClass_of_methodNamed B.named
  have hlocks := B.notSynchronized
  subst hsz
  have hD := mw_D (sz := s.heap.size) hD0
  have hS : va_S (xA 9 am s.heap.size) s.heap s.heap [] := va_S.rf
  have hA : ∀ q : Nat, s.heap.size ≤ q → (xA 9 am s.heap.size) q := fun q h => Or.inr h
  have hl := lv_entry ([.ref (am 0), .int cod, .int (nI 0)]) (n := 3) (Nat.le_of_ble_eq_true rfl)
  rw [lg_entry_eq]
  generalize (lg_sl ([.ref (am 0), .int cod, .int (nI 0)]) ++ List.replicate (3 - (lg_sl ([.ref (am 0), .int cod, .int (nI 0)])).length) Slot.unset).toArray = ls at hl ⊢
  have hl : lv_has ls 3 [(0, .ref (am 0)), (1, .int cod), (2, .int (nI 0))] := hl
  refine lv_aload_n hx hb d_M_fails_0 rfl (lv_at hl 0 rfl) ?_
  refine lv_iload_n hx hb d_M_fails_1 rfl (lv_at hl 2 rfl) ?_
  refine lv_if_eq (tgt := 9) hx hb d_M_fails_2 (by decide) (fun c2 => ?_) (fun c2 => ?_)
  ·
    refine lv_iconst (v := nI 0) hx hb d_M_fails_9 (by decide) ?_
    refine va_put (D := (dC, dI)) (ci := 5) (v := .int (nI 0)) (ty := .int) (C := R_M) (T := F_M) (N := 20) hx hb hts (fun w h => List.mem_cons_of_mem _ (in_M w h)) t_M ok_M nm_M hown hK hP hD hS 0 rfl rfl 0 (by decide) (hts (.fieldLink R_M 49 R_M "thrown" "I") (List.mem_cons_of_mem _ t_712)) (fun _ h9 => h9) rfl (by decide +kernel) rfl rfl (Nat.le_of_ble_eq_true rfl) d_M_fails_10 (fun H locs hP hD hS => ?_)
    have hP : va_P (dC, dI) vwCl (mw_ am cm (nI 0) mw mwr mfl mact on cut mrec mlog mlive had mser mcur mrd mwt worn pg pla sou fou) H := hP
    have hD : va_D (xA 9 am s.heap.size) (mw_ am cm (nI 0) mw mwr mfl mact on cut mrec mlog mlive had mser mcur mrd mwt worn pg pla sou fou) := hD
    refine lv_iload_n hx hb d_M_fails_13 rfl (lv_at hl 2 rfl) ?_
    exact W.zret (v := nI 0) hx hb hr (by first | rfl | decide | assumption) (fun t ht hW => ⟨⟨nI 0, (), rfl, by first | rfl | trivial | omega, ⟨by rw [ht]; exact hP, va_K.moved hW.alike hK, hD⟩⟩, hS.F ht⟩) hS.2.2 d_M_fails_14
  ·
    exact absurd c2 (by decide)
set_option maxHeartbeats 4000000 in
set_option maxRecDepth 100000 in
theorem c_M_fails_1 (l : Launch) (dC : Nat → ClassId) (dI : Nat → Nat → Nat) (am cm : Nat → Nat) (sz : Nat) (th : Int32) (mw mwr mfl mact : Nat → Int32) (on cut mrec : Int32) (mlog mlive had : Nat → Int32) (mser mcur mrd mwt worn : Int32) (pg : Nat → Int32) (pla sou fou : Int32) (cod : Int32) : Met l y_M_fails w_M_fails ({ frames := 0, cells := 0, slots := 0, locals := 0 }) (xP (dC, dI) vwCl (mt cm) (mw_ am cm th mw mwr mfl mact on cut mrec mlog mlive had mser mcur mrd mwt worn pg pla sou fou) sz [.ref (am 0), .int cod, .int (nI 1)]) (va_Qi (fun r (u : Unit) => r = nI 1) (fun (u : Unit) (t : State) => xB (dC, dI) vwCl (mt cm) (xA 9 am sz) (mw_ am cm cod mw mwr mfl mact on cut mrec mlog mlive had mser mcur mrd mwt worn pg pla sou fou) t) (xA 9 am sz)) 0 0 (xA 9 am sz) := by
  refine Met.ofW (cc := b_M_fails) (maxL := 3) (ret := (some (.boolean))) (by decide) rfl ?_
  intro P e s m args below meth c0 s₁ B hml hv
  obtain ⟨rfl, hsz, hP, hK, hD0⟩ := hv
  have hx := B.exec
  have hb := B.bytes
  have hr := B.returns
  have hts := atoms_spec (ws := w_M_fails) B.pre
  have hown : s.vm.findClass R_M = some m.cls := findClass_of_methodNamed B.named
  have hlocks := B.notSynchronized
  subst hsz
  have hD := mw_D (sz := s.heap.size) hD0
  have hS : va_S (xA 9 am s.heap.size) s.heap s.heap [] := va_S.rf
  have hA : ∀ q : Nat, s.heap.size ≤ q → (xA 9 am s.heap.size) q := fun q h => Or.inr h
  have hl := lv_entry ([.ref (am 0), .int cod, .int (nI 1)]) (n := 3) (Nat.le_of_ble_eq_true rfl)
  rw [lg_entry_eq]
  generalize (lg_sl ([.ref (am 0), .int cod, .int (nI 1)]) ++ List.replicate (3 - (lg_sl ([.ref (am 0), .int cod, .int (nI 1)])).length) Slot.unset).toArray = ls at hl ⊢
  have hl : lv_has ls 3 [(0, .ref (am 0)), (1, .int cod), (2, .int (nI 1))] := hl
  refine lv_aload_n hx hb d_M_fails_0 rfl (lv_at hl 0 rfl) ?_
  refine lv_iload_n hx hb d_M_fails_1 rfl (lv_at hl 2 rfl) ?_
  refine lv_if_eq (tgt := 9) hx hb d_M_fails_2 (by decide) (fun c2 => ?_) (fun c2 => ?_)
  ·
    exact absurd c2 (by decide)
  ·
    refine lv_iload_n hx hb d_M_fails_5 rfl (lv_at hl 1 rfl) ?_
    refine lv_goto (tgt := 10) hx hb d_M_fails_6 (by decide) ?_
    refine va_put (D := (dC, dI)) (ci := 5) (v := .int cod) (ty := .int) (C := R_M) (T := F_M) (N := 20) hx hb hts (fun w h => List.mem_cons_of_mem _ (in_M w h)) t_M ok_M nm_M hown hK hP hD hS 0 rfl rfl 0 (by decide) (hts (.fieldLink R_M 49 R_M "thrown" "I") (List.mem_cons_of_mem _ t_712)) (fun _ h9 => h9) rfl (by decide +kernel) rfl rfl (Nat.le_of_ble_eq_true rfl) d_M_fails_10 (fun H locs hP hD hS => ?_)
    have hP : va_P (dC, dI) vwCl (mw_ am cm cod mw mwr mfl mact on cut mrec mlog mlive had mser mcur mrd mwt worn pg pla sou fou) H := hP
    have hD : va_D (xA 9 am s.heap.size) (mw_ am cm cod mw mwr mfl mact on cut mrec mlog mlive had mser mcur mrd mwt worn pg pla sou fou) := hD
    refine lv_iload_n hx hb d_M_fails_13 rfl (lv_at hl 2 rfl) ?_
    exact W.zret (v := nI 1) hx hb hr (by first | rfl | decide | assumption) (fun t ht hW => ⟨⟨nI 1, (), rfl, by first | rfl | trivial | omega, ⟨by rw [ht]; exact hP, va_K.moved hW.alike hK, hD⟩⟩, hS.F ht⟩) hS.2.2 d_M_fails_14
set_option maxHeartbeats 4000000 in
set_option maxRecDepth 100000 in
theorem c_M_forget (l : Launch) (dC : Nat → ClassId) (dI : Nat → Nat → Nat) (am cm : Nat → Nat) (sz : Nat) (th : Int32) (mw mwr mfl mact : Nat → Int32) (on cut mrec : Int32) (mlog mlive had : Nat → Int32) (mser mcur mrd mwt worn : Int32) (pg : Nat → Int32) (pla sou fou : Int32)  : Met l y_M_forget w_M_forget ({ frames := 0, cells := 0, slots := 0, locals := 0 }) (xP (dC, dI) vwCl (mt cm) (mw_ am cm th mw mwr mfl mact on cut mrec mlog mlive had mser mcur mrd mwt worn pg pla sou fou) sz [.ref (am 0)]) (va_Qv (fun (u : Nat → Int32) => ∀ i, i < 16 → u i = -1) (fun (u : Nat → Int32) (t : State) => xB (dC, dI) vwCl (mt cm) (xA 9 am sz) (mw_ am cm th mw mwr mfl mact on (-1) (nI 0) mlog u had (nI 0) (-1) (nI 0) (nI 0) (nI 0) pg pla sou fou) t) (xA 9 am sz)) 0 0 (xA 9 am sz) := by
  refine Met.ofW (cc := b_M_forget) (maxL := 2) (ret := none) (by decide) rfl ?_
  intro P e s m args below meth c0 s₁ B hml hv
  obtain ⟨rfl, hsz, hP, hK, hD0⟩ := hv
  have hx := B.exec
  have hb := B.bytes
  have hr := B.returns
  have hts := atoms_spec (ws := w_M_forget) B.pre
  have hown : s.vm.findClass R_M = some m.cls := findClass_of_methodNamed B.named
  have hlocks := B.notSynchronized
  subst hsz
  have hD := mw_D (sz := s.heap.size) hD0
  have hS : va_S (xA 9 am s.heap.size) s.heap s.heap [] := va_S.rf
  have hA : ∀ q : Nat, s.heap.size ≤ q → (xA 9 am s.heap.size) q := fun q h => Or.inr h
  have hl := lv_entry ([.ref (am 0)]) (n := 2) (Nat.le_of_ble_eq_true rfl)
  rw [lg_entry_eq]
  generalize (lg_sl ([.ref (am 0)]) ++ List.replicate (2 - (lg_sl ([.ref (am 0)])).length) Slot.unset).toArray = ls at hl ⊢
  have hl : lv_has ls 2 [(0, .ref (am 0))] := hl
  refine lv_aload_n hx hb d_M_forget_0 rfl (lv_at hl 0 rfl) ?_
  refine lv_iconst (v := nI 0) hx hb d_M_forget_1 (by decide) ?_
  refine va_put (D := (dC, dI)) (ci := 5) (v := .int (nI 0)) (ty := .int) (C := R_M) (T := F_M) (N := 20) hx hb hts (fun w h => List.mem_cons_of_mem _ (in_M w h)) t_M ok_M nm_M hown hK hP hD hS 0 rfl rfl 7 (by decide) (hts (.fieldLink R_M 52 R_M "records" "I") (List.mem_cons_of_mem _ t_719)) (fun _ h9 => h9) rfl (by decide +kernel) rfl rfl (Nat.le_of_ble_eq_true rfl) d_M_forget_2 (fun H locs hP hD hS => ?_)
  have hP : va_P (dC, dI) vwCl (mw_ am cm th mw mwr mfl mact on cut (nI 0) mlog mlive had mser mcur mrd mwt worn pg pla sou fou) H := hP
  have hD : va_D (xA 9 am s.heap.size) (mw_ am cm th mw mwr mfl mact on cut (nI 0) mlog mlive had mser mcur mrd mwt worn pg pla sou fou) := hD
  refine lv_iconst (v := nI 0) hx hb d_M_forget_5 (by decide) ?_
  refine lv_istore_n hx hb d_M_forget_6 rfl hl (by decide) rfl (fun ls hl => ?_)
  have hl : lv_has ls 2 [(1, .int (nI 0)), (0, .ref (am 0))] := hl
  have lp7 : ∀ (n : Nat) (k : Nat) (lv : Nat → Int32) (H : Heap) (locs : List Loc) (ls : Array Slot), (16 - k) < n → (k ≤ 16) → (∀ i, i < k → lv i = -1) → lv_has ls 2 [(0, .ref (am 0)), (1, .int (nI k))] → va_P (dC, dI) vwCl (mw_ am cm th mw mwr mfl mact on cut (nI 0) mlog lv had mser mcur mrd mwt worn pg pla sou fou) H → va_D (xA 9 am s.heap.size) (mw_ am cm th mw mwr mfl mact on cut (nI 0) mlog lv had mser mcur mrd mwt worn pg pla sou fou) → va_S (xA 9 am s.heap.size) s.heap H locs → W P l e (headSpec w_M_forget ({ frames := 0, cells := 0, slots := 0, locals := 0 })).room s m (([.ref (am 0)] : List Value).toArray) below meth c0 H locs 0 0 (MQ below (va_Qv (fun (u : Nat → Int32) => ∀ i, i < 16 → u i = -1) (fun (u : Nat → Int32) (t : State) => xB (dC, dI) vwCl (mt cm) (xA 9 am s.heap.size) (mw_ am cm th mw mwr mfl mact on (-1) (nI 0) mlog u had (nI 0) (-1) (nI 0) (nI 0) (nI 0) pg pla sou fou) t) (xA 9 am s.heap.size)) (([.ref (am 0)] : List Value).toArray) s 0 0 (xA 9 am s.heap.size)) (F0 m 7 ls []) := by
    intro n
    induction n with
    | zero => intro k lv H locs ls hm; intros; omega
    | succ n ih7 =>
      intro k lv H locs ls hm hk hf hl hP hD hS
      refine lv_iload_n hx hb d_M_forget_7 rfl (lv_at hl 1 rfl) ?_
      refine lv_bipush (v := nI 16) hx hb d_M_forget_8 (by decide) ?_
      refine lv_icmp_ge (tgt := 26) hx hb d_M_forget_10 (by decide) (fun c10 => ?_) (fun c10 => ?_)
      ·
        have c10 := cd_ge_t (by omega) (by omega) c10
        refine lv_aload_n hx hb d_M_forget_26 rfl (lv_at hl 0 rfl) ?_
        refine lv_iconst (v := nI 0) hx hb d_M_forget_27 (by decide) ?_
        refine va_put (D := (dC, dI)) (ci := 5) (v := .int (nI 0)) (ty := .int) (C := R_M) (T := F_M) (N := 20) hx hb hts (fun w h => List.mem_cons_of_mem _ (in_M w h)) t_M ok_M nm_M hown hK hP hD hS 0 rfl rfl 11 (by decide) (hts (.fieldLink R_M 55 R_M "serial" "I") (List.mem_cons_of_mem _ t_723)) (fun _ h9 => h9) rfl (by decide +kernel) rfl rfl (Nat.le_of_ble_eq_true rfl) d_M_forget_28 (fun H locs hP hD hS => ?_)
        have hP : va_P (dC, dI) vwCl (mw_ am cm th mw mwr mfl mact on cut (nI 0) mlog lv had (nI 0) mcur mrd mwt worn pg pla sou fou) H := hP
        have hD : va_D (xA 9 am s.heap.size) (mw_ am cm th mw mwr mfl mact on cut (nI 0) mlog lv had (nI 0) mcur mrd mwt worn pg pla sou fou) := hD
        refine lv_aload_n hx hb d_M_forget_31 rfl (lv_at hl 0 rfl) ?_
        refine lv_iconst (v := (-1)) hx hb d_M_forget_32 (by decide) ?_
        refine va_put (D := (dC, dI)) (ci := 5) (v := .int (-1)) (ty := .int) (C := R_M) (T := F_M) (N := 20) hx hb hts (fun w h => List.mem_cons_of_mem _ (in_M w h)) t_M ok_M nm_M hown hK hP hD hS 0 rfl rfl 12 (by decide) (hts (.fieldLink R_M 40 R_M "cursor" "I") (List.mem_cons_of_mem _ t_724)) (fun _ h9 => h9) rfl (by decide +kernel) rfl rfl (Nat.le_of_ble_eq_true rfl) d_M_forget_33 (fun H locs hP hD hS => ?_)
        have hP : va_P (dC, dI) vwCl (mw_ am cm th mw mwr mfl mact on cut (nI 0) mlog lv had (nI 0) (-1) mrd mwt worn pg pla sou fou) H := hP
        have hD : va_D (xA 9 am s.heap.size) (mw_ am cm th mw mwr mfl mact on cut (nI 0) mlog lv had (nI 0) (-1) mrd mwt worn pg pla sou fou) := hD
        refine lv_aload_n hx hb d_M_forget_36 rfl (lv_at hl 0 rfl) ?_
        refine lv_iconst (v := nI 0) hx hb d_M_forget_37 (by decide) ?_
        refine va_put (D := (dC, dI)) (ci := 5) (v := .int (nI 0)) (ty := .int) (C := R_M) (T := F_M) (N := 20) hx hb hts (fun w h => List.mem_cons_of_mem _ (in_M w h)) t_M ok_M nm_M hown hK hP hD hS 0 rfl rfl 13 (by decide) (hts (.fieldLink R_M 58 R_M "readings" "I") (List.mem_cons_of_mem _ t_725)) (fun _ h9 => h9) rfl (by decide +kernel) rfl rfl (Nat.le_of_ble_eq_true rfl) d_M_forget_38 (fun H locs hP hD hS => ?_)
        have hP : va_P (dC, dI) vwCl (mw_ am cm th mw mwr mfl mact on cut (nI 0) mlog lv had (nI 0) (-1) (nI 0) mwt worn pg pla sou fou) H := hP
        have hD : va_D (xA 9 am s.heap.size) (mw_ am cm th mw mwr mfl mact on cut (nI 0) mlog lv had (nI 0) (-1) (nI 0) mwt worn pg pla sou fou) := hD
        refine lv_aload_n hx hb d_M_forget_41 rfl (lv_at hl 0 rfl) ?_
        refine lv_iconst (v := nI 0) hx hb d_M_forget_42 (by decide) ?_
        refine va_put (D := (dC, dI)) (ci := 5) (v := .int (nI 0)) (ty := .int) (C := R_M) (T := F_M) (N := 20) hx hb hts (fun w h => List.mem_cons_of_mem _ (in_M w h)) t_M ok_M nm_M hown hK hP hD hS 0 rfl rfl 14 (by decide) (hts (.fieldLink R_M 61 R_M "weight" "I") (List.mem_cons_of_mem _ t_726)) (fun _ h9 => h9) rfl (by decide +kernel) rfl rfl (Nat.le_of_ble_eq_true rfl) d_M_forget_43 (fun H locs hP hD hS => ?_)
        have hP : va_P (dC, dI) vwCl (mw_ am cm th mw mwr mfl mact on cut (nI 0) mlog lv had (nI 0) (-1) (nI 0) (nI 0) worn pg pla sou fou) H := hP
        have hD : va_D (xA 9 am s.heap.size) (mw_ am cm th mw mwr mfl mact on cut (nI 0) mlog lv had (nI 0) (-1) (nI 0) (nI 0) worn pg pla sou fou) := hD
        refine lv_aload_n hx hb d_M_forget_46 rfl (lv_at hl 0 rfl) ?_
        refine lv_iconst (v := nI 0) hx hb d_M_forget_47 (by decide) ?_
        refine va_put (D := (dC, dI)) (ci := 5) (v := .int (nI 0)) (ty := .boolean) (C := R_M) (T := F_M) (N := 20) hx hb hts (fun w h => List.mem_cons_of_mem _ (in_M w h)) t_M ok_M nm_M hown hK hP hD hS 0 rfl rfl 15 (by decide) (hts (.fieldLink R_M 64 R_M "worn" "Z") (List.mem_cons_of_mem _ t_727)) (fun _ h9 => h9) rfl (by decide +kernel) (by first | rfl | decide | assumption) rfl (Nat.le_of_ble_eq_true rfl) d_M_forget_48 (fun H locs hP hD hS => ?_)
        have hP : va_P (dC, dI) vwCl (mw_ am cm th mw mwr mfl mact on cut (nI 0) mlog lv had (nI 0) (-1) (nI 0) (nI 0) (nI 0) pg pla sou fou) H := hP
        have hD : va_D (xA 9 am s.heap.size) (mw_ am cm th mw mwr mfl mact on cut (nI 0) mlog lv had (nI 0) (-1) (nI 0) (nI 0) (nI 0) pg pla sou fou) := hD
        refine lv_aload_n hx hb d_M_forget_51 rfl (lv_at hl 0 rfl) ?_
        refine lv_iconst (v := (-1)) hx hb d_M_forget_52 (by decide) ?_
        refine va_put (D := (dC, dI)) (ci := 5) (v := .int (-1)) (ty := .int) (C := R_M) (T := F_M) (N := 20) hx hb hts (fun w h => List.mem_cons_of_mem _ (in_M w h)) t_M ok_M nm_M hown hK hP hD hS 0 rfl rfl 6 (by decide) (hts (.fieldLink R_M 27 R_M "cut" "I") (List.mem_cons_of_mem _ t_718)) (fun _ h9 => h9) rfl (by decide +kernel) rfl rfl (Nat.le_of_ble_eq_true rfl) d_M_forget_53 (fun H locs hP hD hS => ?_)
        have hP : va_P (dC, dI) vwCl (mw_ am cm th mw mwr mfl mact on (-1) (nI 0) mlog lv had (nI 0) (-1) (nI 0) (nI 0) (nI 0) pg pla sou fou) H := hP
        have hD : va_D (xA 9 am s.heap.size) (mw_ am cm th mw mwr mfl mact on (-1) (nI 0) mlog lv had (nI 0) (-1) (nI 0) (nI 0) (nI 0) pg pla sou fou) := hD
        exact W.vret hx hb hr (fun t ht hW => ⟨⟨lv, rfl, fun i hi => hf i (by omega), ⟨by rw [ht]; exact hP, va_K.moved hW.alike hK, hD⟩⟩, hS.F ht⟩) hS.2.2 d_M_forget_56
      ·
        have c10 := cd_ge_f (by omega) (by omega) c10
        refine lv_aload_n hx hb d_M_forget_13 rfl (lv_at hl 0 rfl) ?_
        refine va_get (D := (dC, dI)) (ci := 5) (v := .ref (am 6)) (C := R_M) (T := F_M) (N := 20) hx hb hts (fun w h => List.mem_cons_of_mem _ (in_M w h)) hown hK hP 0 rfl rfl 9 (by decide) (hts (.fieldLink R_M 34 R_M "live" "[I") (List.mem_cons_of_mem _ t_721)) (fun _ h9 => h9) rfl d_M_forget_14 ?_
        refine lv_iload_n hx hb d_M_forget_17 rfl (lv_at hl 1 rfl) ?_
        refine lv_iconst (v := (-1)) hx hb d_M_forget_18 (by decide) ?_
        refine va_iast hx hb hK hP hD hS 6 5 rfl rfl (vp_in_nI (by omega) (by decide)) d_M_forget_19 (fun H locs hP hD hS => ?_)
        rw [nI_clamp (by omega)] at hP hD
        have hP : va_P (dC, dI) vwCl (mw_ am cm th mw mwr mfl mact on cut (nI 0) mlog (upd lv k (-1)) had mser mcur mrd mwt worn pg pla sou fou) H := hP
        have hD : va_D (xA 9 am s.heap.size) (mw_ am cm th mw mwr mfl mact on cut (nI 0) mlog (upd lv k (-1)) had mser mcur mrd mwt worn pg pla sou fou) := hD
        refine lv_iinc (k := 1) (v := nI (k + 1)) hx hb d_M_forget_20 hl rfl (nI_1 _) (by decide) rfl (fun ls hl => ?_)
        have hl : lv_has ls 2 [(1, .int (nI (k + 1))), (0, .ref (am 0))] := hl
        refine lv_goto (tgt := 7) hx hb d_M_forget_23 (by decide) ?_
        exact ih7 (k + 1) (upd lv k (-1)) H locs ls (by omega) (by omega) (upd_lt hf) (lv_sub hl [1, 0] rfl) hP hD hS
  exact lp7 _ 0 mlive H locs ls (Nat.lt_succ_self _) (by omega) (fun i hi => absurd hi (Nat.not_lt_zero i)) (lv_sub hl [1, 0] rfl) hP hD hS
set_option maxHeartbeats 4000000 in
set_option maxRecDepth 100000 in
theorem c_M_off (l : Launch) (dC : Nat → ClassId) (dI : Nat → Nat → Nat) (am cm : Nat → Nat) (sz : Nat) (th : Int32) (mw mwr mfl mact : Nat → Int32) (on cut mrec : Int32) (mlog mlive had : Nat → Int32) (mser mcur mrd mwt worn : Int32) (pg : Nat → Int32) (pla sou fou : Int32)  : Met l y_M_off w_M_off ({ frames := 1, cells := 0, slots := 0, locals := 21 }) (xP (dC, dI) vwCl (mt cm) (mw_ am cm th mw mwr mfl mact on cut mrec mlog mlive had mser mcur mrd mwt worn pg pla sou fou) sz [.ref (am 0)]) (va_Qv (fun (u : Nat → Int32) => ∀ i, i < 16 → u i = -1) (fun (u : Nat → Int32) (t : State) => xB (dC, dI) vwCl (mt cm) (xA 9 am sz) (mw_ am cm th mw mwr mfl mact (nI 0) (-1) (nI 0) mlog u had (nI 0) (-1) (nI 0) (nI 0) (nI 0) pg pla sou fou) t) (xA 9 am sz)) 0 0 (xA 9 am sz) := by
  refine Met.ofW (cc := b_M_off) (maxL := 1) (ret := none) (by decide) rfl ?_
  intro P e s m args below meth c0 s₁ B hml hv
  obtain ⟨rfl, hsz, hP, hK, hD0⟩ := hv
  have hx := B.exec
  have hb := B.bytes
  have hr := B.returns
  have hts := atoms_spec (ws := w_M_off) B.pre
  have hown : s.vm.findClass R_M = some m.cls := findClass_of_methodNamed B.named
  have hlocks := B.notSynchronized
  subst hsz
  have hD := mw_D (sz := s.heap.size) hD0
  have hS : va_S (xA 9 am s.heap.size) s.heap s.heap [] := va_S.rf
  have hA : ∀ q : Nat, s.heap.size ≤ q → (xA 9 am s.heap.size) q := fun q h => Or.inr h
  have hl := lv_entry ([.ref (am 0)]) (n := 1) (Nat.le_of_ble_eq_true rfl)
  rw [lg_entry_eq]
  generalize (lg_sl ([.ref (am 0)]) ++ List.replicate (1 - (lg_sl ([.ref (am 0)])).length) Slot.unset).toArray = ls at hl ⊢
  have hl : lv_has ls 1 [(0, .ref (am 0))] := hl
  refine lv_aload_n hx hb d_M_off_0 rfl (lv_at hl 0 rfl) ?_
  refine lv_iconst (v := nI 0) hx hb d_M_off_1 (by decide) ?_
  refine va_put (D := (dC, dI)) (ci := 5) (v := .int (nI 0)) (ty := .boolean) (C := R_M) (T := F_M) (N := 20) hx hb hts (fun w h => List.mem_cons_of_mem _ (in_M w h)) t_M ok_M nm_M hown hK hP hD hS 0 rfl rfl 5 (by decide) (hts (.fieldLink R_M 23 R_M "on" "Z") (List.mem_cons_of_mem _ t_717)) (fun _ h9 => h9) rfl (by decide +kernel) (by first | rfl | decide | assumption) rfl (Nat.le_of_ble_eq_true rfl) d_M_off_2 (fun H locs hP hD hS => ?_)
  have hP : va_P (dC, dI) vwCl (mw_ am cm th mw mwr mfl mact (nI 0) cut mrec mlog mlive had mser mcur mrd mwt worn pg pla sou fou) H := hP
  have hD : va_D (xA 9 am s.heap.size) (mw_ am cm th mw mwr mfl mact (nI 0) cut mrec mlog mlive had mser mcur mrd mwt worn pg pla sou fou) := hD
  refine lv_aload_n hx hb d_M_off_5 rfl (lv_at hl 0 rfl) ?_
  have hSz := hS.1
  refine va_callv (va_runV (C := R_M) (As := []) (rest := []) ⟨hx, hb, hml, hown, hts⟩ (c_M_forget l dC dI am cm H.size th mw mwr mfl mact (nI 0) cut mrec mlog mlive had mser mcur mrd mwt worn pg pla sou fou  ) (cwV 0 hts (g_V t_708 t_710 s_21 t_6 t_711) rfl rfl rfl (by decide +kernel) ⟨by decide, by decide⟩) (xP_v hP hK hD 0 rfl rfl) rfl rfl hl.1 rfl (lv_room (Nat.le_of_ble_eq_true rfl)) d_M_off_6 ⟨Nat.le_refl _, Nat.le_refl _⟩) hS (fun q _ h => xA_up hS.1 q h) (fun q h => xA_up hS.1 q h) (fun u6 t H1 locs1 ht hvm q6 hB hz1 hk1 hS => ?_)
  obtain ⟨hP1, hK1, hD1⟩ := hB
  rw [ht] at hP1
  have hD : va_D (xA 9 am s.heap.size) (mw_ am cm th mw mwr mfl mact (nI 0) (-1) (nI 0) mlog u6 had (nI 0) (-1) (nI 0) (nI 0) (nI 0) pg pla sou fou) := hD1.weaken (fun _ q _ h => xA_up hSz _ h)
  have hP : va_P (dC, dI) vwCl (mw_ am cm th mw mwr mfl mact (nI 0) (-1) (nI 0) mlog u6 had (nI 0) (-1) (nI 0) (nI 0) (nI 0) pg pla sou fou) H1 := hP1
  generalize H1 = H at hP hS ⊢
  generalize locs1 = locs at hS ⊢
  exact W.vret hx hb hr (fun t ht hW => ⟨⟨u6, rfl, q6, ⟨by rw [ht]; exact hP, va_K.moved hW.alike hK, hD⟩⟩, hS.F ht⟩) hS.2.2 d_M_off_9
set_option maxHeartbeats 4000000 in
set_option maxRecDepth 100000 in
theorem c_M_isFree_f (l : Launch) (dC : Nat → ClassId) (dI : Nat → Nat → Nat) (am cm : Nat → Nat) (th : Int32) (mw mwr mfl mact : Nat → Int32) (on cut mrec : Int32) (mlog mlive had : Nat → Int32) (mser mcur mrd mwt worn : Int32) (pg : Nat → Int32) (pla sou fou : Int32) (pa : Nat) (hp : pa < 32) (hmw : ∀ i, i < 512 → mw i = -1) : Met l y_M_isFree w_M_isFree ({ frames := 0, cells := 0, slots := 0, locals := 0 }) (xR (dC, dI) vwCl (mt cm) (mw_ am cm th mw mwr mfl mact on cut mrec mlog mlive had mser mcur mrd mwt worn pg pla sou fou) [.ref (am 0), .int (nI pa)]) (vp_Si (fun r => r = nI 1)) 0 0 (fun _ => False) := by
  refine Met.ofW (cc := b_M_isFree) (maxL := 4) (ret := (some (.boolean))) (by decide) rfl ?_
  intro P e s m args below meth c0 s₁ B hml hv
  obtain ⟨rfl, hP, hK⟩ := hv
  have hx := B.exec
  have hb := B.bytes
  have hr := B.returns
  have hts := atoms_spec (ws := w_M_isFree) B.pre
  have hown : s.vm.findClass R_M = some m.cls := findClass_of_methodNamed B.named
  have hlocks := B.notSynchronized
  have hl := lv_entry ([.ref (am 0), .int (nI pa)]) (n := 4) (Nat.le_of_ble_eq_true rfl)
  rw [lg_entry_eq]
  generalize (lg_sl ([.ref (am 0), .int (nI pa)]) ++ List.replicate (4 - (lg_sl ([.ref (am 0), .int (nI pa)])).length) Slot.unset).toArray = ls at hl ⊢
  have hl : lv_has ls 4 [(0, .ref (am 0)), (1, .int (nI pa))] := hl
  refine lv_iconst (v := nI 1) hx hb d_M_isFree_0 (by decide) ?_
  refine lv_istore_n hx hb d_M_isFree_1 rfl hl (by decide) rfl (fun ls hl => ?_)
  have hl : lv_has ls 4 [(2, .int (nI 1)), (0, .ref (am 0)), (1, .int (nI pa))] := hl
  refine lv_iconst (v := nI 0) hx hb d_M_isFree_2 (by decide) ?_
  refine lv_istore_n hx hb d_M_isFree_3 rfl hl (by decide) rfl (fun ls hl => ?_)
  have hl : lv_has ls 4 [(3, .int (nI 0)), (2, .int (nI 1)), (0, .ref (am 0)), (1, .int (nI pa))] := hl
  have lp4 : ∀ (n : Nat) (k : Nat) (ls : Array Slot), (16 - k) < n → (k ≤ 16) → lv_has ls 4 [(0, .ref (am 0)), (1, .int (nI pa)), (2, .int (nI 1)), (3, .int (nI k))] → W P l e (headSpec w_M_isFree ({ frames := 0, cells := 0, slots := 0, locals := 0 })).room s m (([.ref (am 0), .int (nI pa)] : List Value).toArray) below meth c0 s.heap [] 0 0 (MQ below (vp_Si (fun r => r = nI 1)) (([.ref (am 0), .int (nI pa)] : List Value).toArray) s 0 0 (fun _ => False)) (F0 m 4 ls []) := by
    intro n
    induction n with
    | zero => intro k ls hm; intros; omega
    | succ n ih4 =>
      intro k ls hm hk hl
      refine lv_iload_n hx hb d_M_isFree_4 rfl (lv_at hl 3 rfl) ?_
      refine lv_bipush (v := nI 16) hx hb d_M_isFree_5 (by decide) ?_
      refine lv_icmp_ge (tgt := 41) hx hb d_M_isFree_7 (by decide) (fun c7 => ?_) (fun c7 => ?_)
      ·
        have c7 := cd_ge_t (by omega) (by omega) c7
        refine lv_iload_n hx hb d_M_isFree_41 rfl (lv_at hl 2 rfl) ?_
        exact W.zret (v := nI 1) hx hb hr (by first | rfl | decide | assumption) (fun t ht hW => ⟨nI 1, rfl, by first | rfl | trivial | omega, ht⟩) (fun q hq => by cases hq) d_M_isFree_42
      ·
        have c7 := cd_ge_f (by omega) (by omega) c7
        refine lv_iload_n hx hb d_M_isFree_10 rfl (lv_at hl 2 rfl) ?_
        refine lv_if_eq (tgt := 33) hx hb d_M_isFree_11 (by decide) (fun c11 => ?_) (fun c11 => ?_)
        ·
          exact absurd c11 (by decide)
        ·
          refine lv_aload_n hx hb d_M_isFree_14 rfl (lv_at hl 0 rfl) ?_
          refine va_get (D := (dC, dI)) (ci := 5) (v := .ref (am 1)) (C := R_M) (T := F_M) (N := 20) hx hb hts (fun w h => List.mem_cons_of_mem _ (in_M w h)) hown hK hP 0 rfl rfl 1 (by decide) (hts (.fieldLink R_M 7 R_M "chip" "[I") (List.mem_cons_of_mem _ t_713)) (fun _ h9 => h9) rfl d_M_isFree_15 ?_
          refine lv_bipush (v := nI 16) hx hb d_M_isFree_18 (by decide) ?_
          refine lv_iload_n hx hb d_M_isFree_20 rfl (lv_at hl 1 rfl) ?_
          refine lv_imul hx hb d_M_isFree_21 ?_
          refine tp_i (y := nI (16 * pa)) (pk_mul _ _) ?_
          refine lv_iload_n hx hb d_M_isFree_22 rfl (lv_at hl 3 rfl) ?_
          refine lv_iadd hx hb d_M_isFree_23 ?_
          refine tp_i (y := nI ((16 * pa) + k)) (nI_add _ _) ?_
          refine va_iald hx hb hK hP 1 0 rfl rfl (vp_in_nI (by omega) (by decide)) d_M_isFree_24 ?_
          refine tp_i (y := mw ((16 * pa) + k)) (by rw [nI_clamp (by omega)]) ?_
          refine lv_iconst (v := (-1)) hx hb d_M_isFree_25 (by decide) ?_
          refine lv_icmp_ne (tgt := 33) hx hb d_M_isFree_26 (by decide) (fun c26 => ?_) (fun c26 => ?_)
          ·
            exact absurd (hmw _ (by omega)) c26
          ·
            refine lv_iconst (v := nI 1) hx hb d_M_isFree_29 (by decide) ?_
            refine lv_goto (tgt := 34) hx hb d_M_isFree_30 (by decide) ?_
            refine lv_istore_n hx hb d_M_isFree_34 rfl hl (by decide) rfl (fun ls hl => ?_)
            have hl : lv_has ls 4 [(2, .int (nI 1)), (0, .ref (am 0)), (1, .int (nI pa)), (3, .int (nI k))] := hl
            refine lv_iinc (k := 3) (v := nI (k + 1)) hx hb d_M_isFree_35 hl rfl (nI_1 _) (by decide) rfl (fun ls hl => ?_)
            have hl : lv_has ls 4 [(3, .int (nI (k + 1))), (2, .int (nI 1)), (0, .ref (am 0)), (1, .int (nI pa))] := hl
            refine lv_goto (tgt := 4) hx hb d_M_isFree_38 (by decide) ?_
            exact ih4 (k + 1) ls (by omega) (by omega) (lv_sub hl [2, 3, 1, 0] rfl)
  exact lp4 _ 0 ls (Nat.lt_succ_self _) (by omega) (lv_sub hl [2, 3, 1, 0] rfl)
set_option maxHeartbeats 4000000 in
set_option maxRecDepth 100000 in
theorem c_M_isRight_f (l : Launch) (dC : Nat → ClassId) (dI : Nat → Nat → Nat) (am cm : Nat → Nat) (th : Int32) (mw mwr mfl mact : Nat → Int32) (on cut mrec : Int32) (mlog mlive had : Nat → Int32) (mser mcur mrd mwt worn : Int32) (pg : Nat → Int32) (pla sou fou : Int32) (pa : Nat) (hp : pa < 32) (hmw : ∀ i, i < 512 → mw i = -1) : Met l y_M_isRight w_M_isRight ({ frames := 0, cells := 0, slots := 0, locals := 0 }) (xR (dC, dI) vwCl (mt cm) (mw_ am cm th mw mwr mfl mact on cut mrec mlog mlive had mser mcur mrd mwt worn pg pla sou fou) [.ref (am 0), .int (nI pa)]) (vp_Si (fun r => r = nI 0)) 0 0 (fun _ => False) := by
  refine Met.ofW (cc := b_M_isRight) (maxL := 3) (ret := (some (.boolean))) (by decide) rfl ?_
  intro P e s m args below meth c0 s₁ B hml hv
  obtain ⟨rfl, hP, hK⟩ := hv
  have hx := B.exec
  have hb := B.bytes
  have hr := B.returns
  have hts := atoms_spec (ws := w_M_isRight) B.pre
  have hown : s.vm.findClass R_M = some m.cls := findClass_of_methodNamed B.named
  have hlocks := B.notSynchronized
  have hl := lv_entry ([.ref (am 0), .int (nI pa)]) (n := 3) (Nat.le_of_ble_eq_true rfl)
  rw [lg_entry_eq]
  generalize (lg_sl ([.ref (am 0), .int (nI pa)]) ++ List.replicate (3 - (lg_sl ([.ref (am 0), .int (nI pa)])).length) Slot.unset).toArray = ls at hl ⊢
  have hl : lv_has ls 3 [(0, .ref (am 0)), (1, .int (nI pa))] := hl
  refine lv_aload_n hx hb d_M_isRight_0 rfl (lv_at hl 0 rfl) ?_
  refine va_get (D := (dC, dI)) (ci := 5) (v := .ref (am 1)) (C := R_M) (T := F_M) (N := 20) hx hb hts (fun w h => List.mem_cons_of_mem _ (in_M w h)) hown hK hP 0 rfl rfl 1 (by decide) (hts (.fieldLink R_M 7 R_M "chip" "[I") (List.mem_cons_of_mem _ t_713)) (fun _ h9 => h9) rfl d_M_isRight_1 ?_
  refine lv_bipush (v := nI 16) hx hb d_M_isRight_4 (by decide) ?_
  refine lv_iload_n hx hb d_M_isRight_6 rfl (lv_at hl 1 rfl) ?_
  refine lv_imul hx hb d_M_isRight_7 ?_
  refine tp_i (y := nI (16 * pa)) (pk_mul _ _) ?_
  refine va_iald hx hb hK hP 1 0 rfl rfl (vp_in_nI (by omega) (by decide)) d_M_isRight_8 ?_
  refine tp_i (y := mw (16 * pa)) (by rw [nI_clamp (by omega)]) ?_
  refine lv_istore_n hx hb d_M_isRight_9 rfl hl (by decide) rfl (fun ls hl => ?_)
  have hl : lv_has ls 3 [(2, .int (mw (16 * pa))), (0, .ref (am 0)), (1, .int (nI pa))] := hl
  refine lv_iload_n hx hb d_M_isRight_10 rfl (lv_at hl 0 rfl) ?_
  refine lv_if_lt (tgt := 76) hx hb d_M_isRight_11 (by decide) (fun c11 => ?_) (fun c11 => ?_)
  ·
    refine lv_iconst (v := nI 0) hx hb d_M_isRight_76 (by decide) ?_
    exact W.zret (v := nI 0) hx hb hr (by first | rfl | decide | assumption) (fun t ht hW => ⟨nI 0, rfl, by first | rfl | trivial | omega, ht⟩) (fun q hq => by cases hq) d_M_isRight_77
  ·
    exact absurd (show (mw (16 * pa) : Int32) < 0 by rw [hmw _ (by omega)]; decide) c11
set_option maxHeartbeats 4000000 in
set_option maxRecDepth 100000 in
theorem c_M_placeOf_f (l : Launch) (dC : Nat → ClassId) (dI : Nat → Nat → Nat) (am cm : Nat → Nat) (th : Int32) (mw mwr mfl mact : Nat → Int32) (on cut mrec : Int32) (mlog mlive had : Nat → Int32) (mser mcur mrd mwt worn : Int32) (pg : Nat → Int32) (pla sou fou : Int32) (n : Int32) : Met l y_M_placeOf w_M_placeOf ({ frames := 0, cells := 0, slots := 0, locals := 0 }) (xR (dC, dI) vwCl (mt cm) (mw_ am cm th mw mwr mfl mact on cut (nI 0) mlog mlive had mser mcur mrd mwt worn pg pla sou fou) [.ref (am 0), .int n]) (vp_Si (fun r => r = -1)) 0 0 (fun _ => False) := by
  refine Met.ofW (cc := b_M_placeOf) (maxL := 4) (ret := (some (.int))) (by decide) rfl ?_
  intro P e s m args below meth c0 s₁ B hml hv
  obtain ⟨rfl, hP, hK⟩ := hv
  have hx := B.exec
  have hb := B.bytes
  have hr := B.returns
  have hts := atoms_spec (ws := w_M_placeOf) B.pre
  have hown : s.vm.findClass R_M = some m.cls := findClass_of_methodNamed B.named
  have hlocks := B.notSynchronized
  have hl := lv_entry ([.ref (am 0), .int n]) (n := 4) (Nat.le_of_ble_eq_true rfl)
  rw [lg_entry_eq]
  generalize (lg_sl ([.ref (am 0), .int n]) ++ List.replicate (4 - (lg_sl ([.ref (am 0), .int n])).length) Slot.unset).toArray = ls at hl ⊢
  have hl : lv_has ls 4 [(0, .ref (am 0)), (1, .int n)] := hl
  refine lv_iconst (v := nI 0) hx hb d_M_placeOf_0 (by decide) ?_
  refine lv_istore_n hx hb d_M_placeOf_1 rfl hl (by decide) rfl (fun ls hl => ?_)
  have hl : lv_has ls 4 [(2, .int (nI 0)), (0, .ref (am 0)), (1, .int n)] := hl
  refine lv_iconst (v := nI 0) hx hb d_M_placeOf_2 (by decide) ?_
  refine lv_istore_n hx hb d_M_placeOf_3 rfl hl (by decide) rfl (fun ls hl => ?_)
  have hl : lv_has ls 4 [(3, .int (nI 0)), (2, .int (nI 0)), (0, .ref (am 0)), (1, .int n)] := hl
  refine lv_iload_n hx hb d_M_placeOf_4 rfl (lv_at hl 0 rfl) ?_
  refine lv_aload_n hx hb d_M_placeOf_5 rfl (lv_at hl 2 rfl) ?_
  refine va_get (D := (dC, dI)) (ci := 5) (v := .int (nI 0)) (C := R_M) (T := F_M) (N := 20) hx hb hts (fun w h => List.mem_cons_of_mem _ (in_M w h)) hown hK hP 0 rfl rfl 7 (by decide) (hts (.fieldLink R_M 52 R_M "records" "I") (List.mem_cons_of_mem _ t_719)) (fun _ h9 => h9) rfl d_M_placeOf_6 ?_
  refine lv_icmp_ge (tgt := 39) hx hb d_M_placeOf_9 (by decide) (fun c9 => ?_) (fun c9 => ?_)
  ·
    refine lv_iconst (v := (-1)) hx hb d_M_placeOf_39 (by decide) ?_
    exact W.iret (v := (-1)) hx hb hr (fun t ht hW => ⟨(-1), rfl, by first | rfl | trivial | omega, ht⟩) (fun q hq => by cases hq) d_M_placeOf_40
  ·
    exact absurd c9 (by decide)
set_option maxHeartbeats 4000000 in
set_option maxRecDepth 100000 in
theorem c_M_tickets_f (l : Launch) (dC : Nat → ClassId) (dI : Nat → Nat → Nat) (am cm : Nat → Nat) (th : Int32) (mw mwr mfl mact : Nat → Int32) (on cut mrec : Int32) (mlog mlive had : Nat → Int32) (mser mcur mrd mwt worn : Int32) (pg : Nat → Int32) (pla sou fou : Int32)  : Met l y_M_tickets w_M_tickets ({ frames := 0, cells := 0, slots := 0, locals := 0 }) (xR (dC, dI) vwCl (mt cm) (mw_ am cm th mw mwr mfl mact on cut (nI 0) mlog mlive had mser mcur mrd mwt worn pg pla sou fou) [.ref (am 0)]) (vp_Si (fun r => r = nI 0)) 0 0 (fun _ => False) := by
  refine Met.ofW (cc := b_M_tickets) (maxL := 3) (ret := (some (.int))) (by decide) rfl ?_
  intro P e s m args below meth c0 s₁ B hml hv
  obtain ⟨rfl, hP, hK⟩ := hv
  have hx := B.exec
  have hb := B.bytes
  have hr := B.returns
  have hts := atoms_spec (ws := w_M_tickets) B.pre
  have hown : s.vm.findClass R_M = some m.cls := findClass_of_methodNamed B.named
  have hlocks := B.notSynchronized
  have hl := lv_entry ([.ref (am 0)]) (n := 3) (Nat.le_of_ble_eq_true rfl)
  rw [lg_entry_eq]
  generalize (lg_sl ([.ref (am 0)]) ++ List.replicate (3 - (lg_sl ([.ref (am 0)])).length) Slot.unset).toArray = ls at hl ⊢
  have hl : lv_has ls 3 [(0, .ref (am 0))] := hl
  refine lv_iconst (v := nI 0) hx hb d_M_tickets_0 (by decide) ?_
  refine lv_istore_n hx hb d_M_tickets_1 rfl hl (by decide) rfl (fun ls hl => ?_)
  have hl : lv_has ls 3 [(1, .int (nI 0)), (0, .ref (am 0))] := hl
  refine lv_iconst (v := nI 0) hx hb d_M_tickets_2 (by decide) ?_
  refine lv_istore_n hx hb d_M_tickets_3 rfl hl (by decide) rfl (fun ls hl => ?_)
  have hl : lv_has ls 3 [(2, .int (nI 0)), (1, .int (nI 0)), (0, .ref (am 0))] := hl
  refine lv_iload_n hx hb d_M_tickets_4 rfl (lv_at hl 0 rfl) ?_
  refine lv_aload_n hx hb d_M_tickets_5 rfl (lv_at hl 2 rfl) ?_
  refine va_get (D := (dC, dI)) (ci := 5) (v := .int (nI 0)) (C := R_M) (T := F_M) (N := 20) hx hb hts (fun w h => List.mem_cons_of_mem _ (in_M w h)) hown hK hP 0 rfl rfl 7 (by decide) (hts (.fieldLink R_M 52 R_M "records" "I") (List.mem_cons_of_mem _ t_719)) (fun _ h9 => h9) rfl d_M_tickets_6 ?_
  refine lv_icmp_ge (tgt := 34) hx hb d_M_tickets_9 (by decide) (fun c9 => ?_) (fun c9 => ?_)
  ·
    refine lv_iload_n hx hb d_M_tickets_34 rfl (lv_at hl 1 rfl) ?_
    exact W.iret (v := nI 0) hx hb hr (fun t ht hW => ⟨nI 0, rfl, by first | rfl | trivial | omega, ht⟩) (fun q hq => by cases hq) d_M_tickets_35
  ·
    exact absurd c9 (by decide)
set_option maxHeartbeats 4000000 in
set_option maxRecDepth 100000 in
theorem c_M_durable_f (l : Launch) (dC : Nat → ClassId) (dI : Nat → Nat → Nat) (am cm : Nat → Nat) (th : Int32) (mw mwr mfl mact : Nat → Int32) (on cut mrec : Int32) (mlog mlive had : Nat → Int32) (mser mcur mrd mwt worn : Int32) (pg : Nat → Int32) (pla sou fou : Int32)  (hmv : ∀ i, i < 16 → mlive i = -1) : Met l y_M_durable w_M_durable ({ frames := 0, cells := 0, slots := 0, locals := 0 }) (xR (dC, dI) vwCl (mt cm) (mw_ am cm th mw mwr mfl mact on cut mrec mlog mlive had mser mcur mrd mwt worn pg pla sou fou) [.ref (am 0)]) (vp_Si (fun r => r = nI 0)) 0 0 (fun _ => False) := by
  refine Met.ofW (cc := b_M_durable) (maxL := 3) (ret := (some (.int))) (by decide) rfl ?_
  intro P e s m args below meth c0 s₁ B hml hv
  obtain ⟨rfl, hP, hK⟩ := hv
  have hx := B.exec
  have hb := B.bytes
  have hr := B.returns
  have hts := atoms_spec (ws := w_M_durable) B.pre
  have hown : s.vm.findClass R_M = some m.cls := findClass_of_methodNamed B.named
  have hlocks := B.notSynchronized
  have hl := lv_entry ([.ref (am 0)]) (n := 3) (Nat.le_of_ble_eq_true rfl)
  rw [lg_entry_eq]
  generalize (lg_sl ([.ref (am 0)]) ++ List.replicate (3 - (lg_sl ([.ref (am 0)])).length) Slot.unset).toArray = ls at hl ⊢
  have hl : lv_has ls 3 [(0, .ref (am 0))] := hl
  refine lv_iconst (v := nI 0) hx hb d_M_durable_0 (by decide) ?_
  refine lv_istore_n hx hb d_M_durable_1 rfl hl (by decide) rfl (fun ls hl => ?_)
  have hl : lv_has ls 3 [(1, .int (nI 0)), (0, .ref (am 0))] := hl
  refine lv_iconst (v := nI 0) hx hb d_M_durable_2 (by decide) ?_
  refine lv_istore_n hx hb d_M_durable_3 rfl hl (by decide) rfl (fun ls hl => ?_)
  have hl : lv_has ls 3 [(2, .int (nI 0)), (1, .int (nI 0)), (0, .ref (am 0))] := hl
  have lp4 : ∀ (n : Nat) (k : Nat) (ls : Array Slot), (16 - k) < n → (k ≤ 16) → lv_has ls 3 [(0, .ref (am 0)), (1, .int (nI 0)), (2, .int (nI k))] → W P l e (headSpec w_M_durable ({ frames := 0, cells := 0, slots := 0, locals := 0 })).room s m (([.ref (am 0)] : List Value).toArray) below meth c0 s.heap [] 0 0 (MQ below (vp_Si (fun r => r = nI 0)) (([.ref (am 0)] : List Value).toArray) s 0 0 (fun _ => False)) (F0 m 4 ls []) := by
    intro n
    induction n with
    | zero => intro k ls hm; intros; omega
    | succ n ih4 =>
      intro k ls hm hk hl
      refine lv_iload_n hx hb d_M_durable_4 rfl (lv_at hl 2 rfl) ?_
      refine lv_bipush (v := nI 16) hx hb d_M_durable_5 (by decide) ?_
      refine lv_icmp_ge (tgt := 38) hx hb d_M_durable_7 (by decide) (fun c7 => ?_) (fun c7 => ?_)
      ·
        have c7 := cd_ge_t (by omega) (by omega) c7
        refine lv_iload_n hx hb d_M_durable_38 rfl (lv_at hl 1 rfl) ?_
        exact W.iret (v := nI 0) hx hb hr (fun t ht hW => ⟨nI 0, rfl, by first | rfl | trivial | omega, ht⟩) (fun q hq => by cases hq) d_M_durable_39
      ·
        have c7 := cd_ge_f (by omega) (by omega) c7
        refine lv_iload_n hx hb d_M_durable_10 rfl (lv_at hl 1 rfl) ?_
        refine lv_aload_n hx hb d_M_durable_11 rfl (lv_at hl 0 rfl) ?_
        refine va_get (D := (dC, dI)) (ci := 5) (v := .ref (am 6)) (C := R_M) (T := F_M) (N := 20) hx hb hts (fun w h => List.mem_cons_of_mem _ (in_M w h)) hown hK hP 0 rfl rfl 9 (by decide) (hts (.fieldLink R_M 34 R_M "live" "[I") (List.mem_cons_of_mem _ t_721)) (fun _ h9 => h9) rfl d_M_durable_12 ?_
        refine lv_iload_n hx hb d_M_durable_15 rfl (lv_at hl 2 rfl) ?_
        refine va_iald hx hb hK hP 6 5 rfl rfl (vp_in_nI (by omega) (by decide)) d_M_durable_16 ?_
        refine tp_i (y := mlive k) (by rw [nI_clamp (by omega)]) ?_
        refine lv_if_lt (tgt := 29) hx hb d_M_durable_17 (by decide) (fun c17 => ?_) (fun c17 => ?_)
        ·
          refine lv_iconst (v := nI 0) hx hb d_M_durable_29 (by decide) ?_
          refine lv_iadd hx hb d_M_durable_30 ?_
          refine tp_i (y := nI (0 + 0)) (nI_add _ _) ?_
          refine lv_istore_n hx hb d_M_durable_31 rfl hl (by decide) rfl (fun ls hl => ?_)
          have hl : lv_has ls 3 [(1, .int (nI (0 + 0))), (0, .ref (am 0)), (2, .int (nI k))] := hl
          refine lv_iinc (k := 2) (v := nI (k + 1)) hx hb d_M_durable_32 hl rfl (nI_1 _) (by decide) rfl (fun ls hl => ?_)
          have hl : lv_has ls 3 [(2, .int (nI (k + 1))), (1, .int (nI (0 + 0))), (0, .ref (am 0))] := hl
          refine lv_goto (tgt := 4) hx hb d_M_durable_35 (by decide) ?_
          exact ih4 (k + 1) ls (by omega) (by omega) (lv_sub hl [2, 1, 0] rfl)
        ·
          exact absurd (show (mlive k : Int32) < 0 by rw [hmv _ (by omega)]; decide) c17
  exact lp4 _ 0 ls (Nat.lt_succ_self _) (by omega) (lv_sub hl [2, 1, 0] rfl)
set_option maxHeartbeats 4000000 in
set_option maxRecDepth 100000 in
theorem c_M_liveCount_f (l : Launch) (dC : Nat → ClassId) (dI : Nat → Nat → Nat) (am cm : Nat → Nat) (th : Int32) (mw mwr mfl mact : Nat → Int32) (on cut mrec : Int32) (mlog mlive had : Nat → Int32) (mser mcur mrd mwt worn : Int32) (pg : Nat → Int32) (pla sou fou : Int32)  (hmv : ∀ i, i < 16 → mlive i = -1) : Met l y_M_liveCount w_M_liveCount ({ frames := 0, cells := 0, slots := 0, locals := 0 }) (xR (dC, dI) vwCl (mt cm) (mw_ am cm th mw mwr mfl mact on cut mrec mlog mlive had mser mcur mrd mwt worn pg pla sou fou) [.ref (am 0)]) (vp_Si (fun r => r = nI 0)) 0 0 (fun _ => False) := by
  refine Met.ofW (cc := b_M_liveCount) (maxL := 3) (ret := (some (.int))) (by decide) rfl ?_
  intro P e s m args below meth c0 s₁ B hml hv
  obtain ⟨rfl, hP, hK⟩ := hv
  have hx := B.exec
  have hb := B.bytes
  have hr := B.returns
  have hts := atoms_spec (ws := w_M_liveCount) B.pre
  have hown : s.vm.findClass R_M = some m.cls := findClass_of_methodNamed B.named
  have hlocks := B.notSynchronized
  have hl := lv_entry ([.ref (am 0)]) (n := 3) (Nat.le_of_ble_eq_true rfl)
  rw [lg_entry_eq]
  generalize (lg_sl ([.ref (am 0)]) ++ List.replicate (3 - (lg_sl ([.ref (am 0)])).length) Slot.unset).toArray = ls at hl ⊢
  have hl : lv_has ls 3 [(0, .ref (am 0))] := hl
  refine lv_iconst (v := nI 0) hx hb d_M_liveCount_0 (by decide) ?_
  refine lv_istore_n hx hb d_M_liveCount_1 rfl hl (by decide) rfl (fun ls hl => ?_)
  have hl : lv_has ls 3 [(1, .int (nI 0)), (0, .ref (am 0))] := hl
  refine lv_iconst (v := nI 0) hx hb d_M_liveCount_2 (by decide) ?_
  refine lv_istore_n hx hb d_M_liveCount_3 rfl hl (by decide) rfl (fun ls hl => ?_)
  have hl : lv_has ls 3 [(2, .int (nI 0)), (1, .int (nI 0)), (0, .ref (am 0))] := hl
  have lp4 : ∀ (n : Nat) (k : Nat) (ls : Array Slot), (16 - k) < n → (k ≤ 16) → lv_has ls 3 [(0, .ref (am 0)), (1, .int (nI 0)), (2, .int (nI k))] → W P l e (headSpec w_M_liveCount ({ frames := 0, cells := 0, slots := 0, locals := 0 })).room s m (([.ref (am 0)] : List Value).toArray) below meth c0 s.heap [] 0 0 (MQ below (vp_Si (fun r => r = nI 0)) (([.ref (am 0)] : List Value).toArray) s 0 0 (fun _ => False)) (F0 m 4 ls []) := by
    intro n
    induction n with
    | zero => intro k ls hm; intros; omega
    | succ n ih4 =>
      intro k ls hm hk hl
      refine lv_iload_n hx hb d_M_liveCount_4 rfl (lv_at hl 2 rfl) ?_
      refine lv_bipush (v := nI 16) hx hb d_M_liveCount_5 (by decide) ?_
      refine lv_icmp_ge (tgt := 33) hx hb d_M_liveCount_7 (by decide) (fun c7 => ?_) (fun c7 => ?_)
      ·
        have c7 := cd_ge_t (by omega) (by omega) c7
        refine lv_iload_n hx hb d_M_liveCount_33 rfl (lv_at hl 1 rfl) ?_
        exact W.iret (v := nI 0) hx hb hr (fun t ht hW => ⟨nI 0, rfl, by first | rfl | trivial | omega, ht⟩) (fun q hq => by cases hq) d_M_liveCount_34
      ·
        have c7 := cd_ge_f (by omega) (by omega) c7
        refine lv_iload_n hx hb d_M_liveCount_10 rfl (lv_at hl 1 rfl) ?_
        refine lv_aload_n hx hb d_M_liveCount_11 rfl (lv_at hl 0 rfl) ?_
        refine va_get (D := (dC, dI)) (ci := 5) (v := .ref (am 6)) (C := R_M) (T := F_M) (N := 20) hx hb hts (fun w h => List.mem_cons_of_mem _ (in_M w h)) hown hK hP 0 rfl rfl 9 (by decide) (hts (.fieldLink R_M 34 R_M "live" "[I") (List.mem_cons_of_mem _ t_721)) (fun _ h9 => h9) rfl d_M_liveCount_12 ?_
        refine lv_iload_n hx hb d_M_liveCount_15 rfl (lv_at hl 2 rfl) ?_
        refine va_iald hx hb hK hP 6 5 rfl rfl (vp_in_nI (by omega) (by decide)) d_M_liveCount_16 ?_
        refine tp_i (y := mlive k) (by rw [nI_clamp (by omega)]) ?_
        refine lv_if_lt (tgt := 24) hx hb d_M_liveCount_17 (by decide) (fun c17 => ?_) (fun c17 => ?_)
        ·
          refine lv_iconst (v := nI 0) hx hb d_M_liveCount_24 (by decide) ?_
          refine lv_iadd hx hb d_M_liveCount_25 ?_
          refine tp_i (y := nI (0 + 0)) (nI_add _ _) ?_
          refine lv_istore_n hx hb d_M_liveCount_26 rfl hl (by decide) rfl (fun ls hl => ?_)
          have hl : lv_has ls 3 [(1, .int (nI (0 + 0))), (0, .ref (am 0)), (2, .int (nI k))] := hl
          refine lv_iinc (k := 2) (v := nI (k + 1)) hx hb d_M_liveCount_27 hl rfl (nI_1 _) (by decide) rfl (fun ls hl => ?_)
          have hl : lv_has ls 3 [(2, .int (nI (k + 1))), (1, .int (nI (0 + 0))), (0, .ref (am 0))] := hl
          refine lv_goto (tgt := 4) hx hb d_M_liveCount_30 (by decide) ?_
          exact ih4 (k + 1) ls (by omega) (by omega) (lv_sub hl [2, 1, 0] rfl)
        ·
          exact absurd (show (mlive k : Int32) < 0 by rw [hmv _ (by omega)]; decide) c17
  exact lp4 _ 0 ls (Nat.lt_succ_self _) (by omega) (lv_sub hl [2, 1, 0] rfl)
set_option maxHeartbeats 4000000 in
set_option maxRecDepth 100000 in
theorem c_M_freePages_f (l : Launch) (dC : Nat → ClassId) (dI : Nat → Nat → Nat) (am cm : Nat → Nat) (th : Int32) (mw mwr mfl mact : Nat → Int32) (on cut mrec : Int32) (mlog mlive had : Nat → Int32) (mser mcur mrd mwt worn : Int32) (pg : Nat → Int32) (pla sou fou : Int32)  (hmw : ∀ i, i < 512 → mw i = -1) (hmf : ∀ i, i < 8 → mfl i = 0) : Met l y_M_freePages w_M_freePages ({ frames := 1, cells := 0, slots := 0, locals := 23 }) (xR (dC, dI) vwCl (mt cm) (mw_ am cm th mw mwr mfl mact on cut mrec mlog mlive had mser mcur mrd mwt worn pg pla sou fou) [.ref (am 0)]) (vp_Si (fun r => r = nI 32)) 0 0 (fun _ => False) := by
  refine Met.ofW (cc := b_M_freePages) (maxL := 3) (ret := (some (.int))) (by decide) rfl ?_
  intro P e s m args below meth c0 s₁ B hml hv
  obtain ⟨rfl, hP, hK⟩ := hv
  have hx := B.exec
  have hb := B.bytes
  have hr := B.returns
  have hts := atoms_spec (ws := w_M_freePages) B.pre
  have hown : s.vm.findClass R_M = some m.cls := findClass_of_methodNamed B.named
  have hlocks := B.notSynchronized
  have hl := lv_entry ([.ref (am 0)]) (n := 3) (Nat.le_of_ble_eq_true rfl)
  rw [lg_entry_eq]
  generalize (lg_sl ([.ref (am 0)]) ++ List.replicate (3 - (lg_sl ([.ref (am 0)])).length) Slot.unset).toArray = ls at hl ⊢
  have hl : lv_has ls 3 [(0, .ref (am 0))] := hl
  refine lv_iconst (v := nI 0) hx hb d_M_freePages_0 (by decide) ?_
  refine lv_istore_n hx hb d_M_freePages_1 rfl hl (by decide) rfl (fun ls hl => ?_)
  have hl : lv_has ls 3 [(1, .int (nI 0)), (0, .ref (am 0))] := hl
  refine lv_iconst (v := nI 0) hx hb d_M_freePages_2 (by decide) ?_
  refine lv_istore_n hx hb d_M_freePages_3 rfl hl (by decide) rfl (fun ls hl => ?_)
  have hl : lv_has ls 3 [(2, .int (nI 0)), (1, .int (nI 0)), (0, .ref (am 0))] := hl
  have lp4 : ∀ (n : Nat) (k : Nat) (ls : Array Slot), (32 - k) < n → (k ≤ 32) → lv_has ls 3 [(0, .ref (am 0)), (1, .int (nI k)), (2, .int (nI k))] → W P l e (headSpec w_M_freePages ({ frames := 1, cells := 0, slots := 0, locals := 23 })).room s m (([.ref (am 0)] : List Value).toArray) below meth c0 s.heap [] 0 0 (MQ below (vp_Si (fun r => r = nI 32)) (([.ref (am 0)] : List Value).toArray) s 0 0 (fun _ => False)) (F0 m 4 ls []) := by
    intro n
    induction n with
    | zero => intro k ls hm; intros; omega
    | succ n ih4 =>
      intro k ls hm hk hl
      refine lv_iload_n hx hb d_M_freePages_4 rfl (lv_at hl 2 rfl) ?_
      refine lv_bipush (v := nI 32) hx hb d_M_freePages_5 (by decide) ?_
      refine lv_icmp_ge (tgt := 43) hx hb d_M_freePages_7 (by decide) (fun c7 => ?_) (fun c7 => ?_)
      ·
        have c7 := cd_ge_t (by omega) (by omega) c7
        refine lv_iload_n hx hb d_M_freePages_43 rfl (lv_at hl 1 rfl) ?_
        exact W.iret (v := nI k) hx hb hr (fun t ht hW => ⟨nI k, rfl, by rw [show k = 32 by omega], ht⟩) (fun q hq => by cases hq) d_M_freePages_44
      ·
        have c7 := cd_ge_f (by omega) (by omega) c7
        refine lv_iload_n hx hb d_M_freePages_10 rfl (lv_at hl 1 rfl) ?_
        refine lv_aload_n hx hb d_M_freePages_11 rfl (lv_at hl 0 rfl) ?_
        refine lv_iload_n hx hb d_M_freePages_12 rfl (lv_at hl 2 rfl) ?_
        refine vp_callSi (va_runV (C := R_M) (As := [.int (nI k)]) (rest := [.int (nI k)]) ⟨hx, hb, hml, hown, hts⟩ (c_M_isFree_f l dC dI am cm th mw mwr mfl mact on cut mrec mlog mlive had mser mcur mrd mwt worn pg pla sou fou k (by omega) (hmw)) (cwV 1 hts (g_V t_820 t_822 s_28 t_6 t_823) rfl rfl rfl (by decide +kernel) ⟨by decide, by decide⟩) (xR_v hP hK 0 rfl rfl) rfl rfl hl.1 rfl (lv_room (Nat.le_of_ble_eq_true rfl)) d_M_freePages_13 ⟨Nat.le_refl _, Nat.le_refl _⟩).run (fun r13 q13 => ?_)
        subst q13
        refine lv_if_eq (tgt := 34) hx hb d_M_freePages_16 (by decide) (fun c16 => ?_) (fun c16 => ?_)
        ·
          exact absurd c16 (by decide)
        ·
          refine lv_aload_n hx hb d_M_freePages_19 rfl (lv_at hl 0 rfl) ?_
          refine va_get (D := (dC, dI)) (ci := 5) (v := .ref (am 3)) (C := R_M) (T := F_M) (N := 20) hx hb hts (fun w h => List.mem_cons_of_mem _ (in_M w h)) hown hK hP 0 rfl rfl 3 (by decide) (hts (.fieldLink R_M 16 R_M "failed" "[Z") (List.mem_cons_of_mem _ t_715)) (fun _ h9 => h9) rfl d_M_freePages_20 ?_
          refine lv_iload_n hx hb d_M_freePages_23 rfl (lv_at hl 2 rfl) ?_
          refine lv_iconst (v := nI 4) hx hb d_M_freePages_24 (by decide) ?_
          refine lv_idiv hx hb d_M_freePages_25 (by decide) ?_
          refine tp_i (y := nI (k / 4)) (pk_div (by omega) (by omega) (by omega)) ?_
          refine va_zald hx hb hK hP 3 2 rfl rfl (vp_in_nI (by omega) (by decide)) d_M_freePages_26 ?_
          refine tp_i (y := mfl (k / 4)) (by rw [nI_clamp (by omega)]) ?_
          refine lv_if_ne (tgt := 34) hx hb d_M_freePages_27 (by decide) (fun c27 => ?_) (fun c27 => ?_)
          ·
            exact absurd (hmf _ (by omega)) c27
          ·
            refine lv_iconst (v := nI 1) hx hb d_M_freePages_30 (by decide) ?_
            refine lv_goto (tgt := 35) hx hb d_M_freePages_31 (by decide) ?_
            refine lv_iadd hx hb d_M_freePages_35 ?_
            refine tp_i (y := nI (k + 1)) (nI_add _ _) ?_
            refine lv_istore_n hx hb d_M_freePages_36 rfl hl (by decide) rfl (fun ls hl => ?_)
            have hl : lv_has ls 3 [(1, .int (nI (k + 1))), (0, .ref (am 0)), (2, .int (nI k))] := hl
            refine lv_iinc (k := 2) (v := nI (k + 1)) hx hb d_M_freePages_37 hl rfl (nI_1 _) (by decide) rfl (fun ls hl => ?_)
            have hl : lv_has ls 3 [(2, .int (nI (k + 1))), (1, .int (nI (k + 1))), (0, .ref (am 0))] := hl
            refine lv_goto (tgt := 4) hx hb d_M_freePages_40 (by decide) ?_
            exact ih4 (k + 1) ls (by omega) (by omega) (lv_sub hl [2, 1, 0] rfl)
  exact lp4 _ 0 ls (Nat.lt_succ_self _) (by omega) (lv_sub hl [2, 1, 0] rfl)
set_option maxHeartbeats 4000000 in
set_option maxRecDepth 100000 in
theorem c_M_latest_f (l : Launch) (dC : Nat → ClassId) (dI : Nat → Nat → Nat) (am cm : Nat → Nat) (th : Int32) (mw mwr mfl mact : Nat → Int32) (on cut mrec : Int32) (mlog mlive had : Nat → Int32) (mser mcur mrd mwt worn : Int32) (pg : Nat → Int32) (pla sou fou : Int32) (leaf : Int32) (hmw : ∀ i, i < 512 → mw i = -1) : Met l y_M_latest w_M_latest ({ frames := 1, cells := 0, slots := 0, locals := 22 }) (xR (dC, dI) vwCl (mt cm) (mw_ am cm th mw mwr mfl mact on cut mrec mlog mlive had mser mcur mrd mwt worn pg pla sou fou) [.ref (am 0), .int leaf]) (vp_Si (fun r => r = -1)) 0 0 (fun _ => False) := by
  refine Met.ofW (cc := b_M_latest) (maxL := 4) (ret := (some (.int))) (by decide) rfl ?_
  intro P e s m args below meth c0 s₁ B hml hv
  obtain ⟨rfl, hP, hK⟩ := hv
  have hx := B.exec
  have hb := B.bytes
  have hr := B.returns
  have hts := atoms_spec (ws := w_M_latest) B.pre
  have hown : s.vm.findClass R_M = some m.cls := findClass_of_methodNamed B.named
  have hlocks := B.notSynchronized
  have hl := lv_entry ([.ref (am 0), .int leaf]) (n := 4) (Nat.le_of_ble_eq_true rfl)
  rw [lg_entry_eq]
  generalize (lg_sl ([.ref (am 0), .int leaf]) ++ List.replicate (4 - (lg_sl ([.ref (am 0), .int leaf])).length) Slot.unset).toArray = ls at hl ⊢
  have hl : lv_has ls 4 [(0, .ref (am 0)), (1, .int leaf)] := hl
  refine lv_iconst (v := (-1)) hx hb d_M_latest_0 (by decide) ?_
  refine lv_istore_n hx hb d_M_latest_1 rfl hl (by decide) rfl (fun ls hl => ?_)
  have hl : lv_has ls 4 [(2, .int (-1)), (0, .ref (am 0)), (1, .int leaf)] := hl
  refine lv_iconst (v := nI 0) hx hb d_M_latest_2 (by decide) ?_
  refine lv_istore_n hx hb d_M_latest_3 rfl hl (by decide) rfl (fun ls hl => ?_)
  have hl : lv_has ls 4 [(3, .int (nI 0)), (2, .int (-1)), (0, .ref (am 0)), (1, .int leaf)] := hl
  have lp4 : ∀ (n : Nat) (k : Nat) (ls : Array Slot), (32 - k) < n → (k ≤ 32) → lv_has ls 4 [(0, .ref (am 0)), (1, .int leaf), (2, .int (-1)), (3, .int (nI k))] → W P l e (headSpec w_M_latest ({ frames := 1, cells := 0, slots := 0, locals := 22 })).room s m (([.ref (am 0), .int leaf] : List Value).toArray) below meth c0 s.heap [] 0 0 (MQ below (vp_Si (fun r => r = -1)) (([.ref (am 0), .int leaf] : List Value).toArray) s 0 0 (fun _ => False)) (F0 m 4 ls []) := by
    intro n
    induction n with
    | zero => intro k ls hm; intros; omega
    | succ n ih4 =>
      intro k ls hm hk hl
      refine lv_iload_n hx hb d_M_latest_4 rfl (lv_at hl 3 rfl) ?_
      refine lv_bipush (v := nI 32) hx hb d_M_latest_5 (by decide) ?_
      refine lv_icmp_ge (tgt := 74) hx hb d_M_latest_7 (by decide) (fun c7 => ?_) (fun c7 => ?_)
      ·
        have c7 := cd_ge_t (by omega) (by omega) c7
        refine lv_iload_n hx hb d_M_latest_74 rfl (lv_at hl 2 rfl) ?_
        exact W.iret (v := (-1)) hx hb hr (fun t ht hW => ⟨(-1), rfl, by first | rfl | trivial | omega, ht⟩) (fun q hq => by cases hq) d_M_latest_75
      ·
        have c7 := cd_ge_f (by omega) (by omega) c7
        refine lv_aload_n hx hb d_M_latest_10 rfl (lv_at hl 0 rfl) ?_
        refine lv_iload_n hx hb d_M_latest_11 rfl (lv_at hl 3 rfl) ?_
        refine vp_callSi (va_runV (C := R_M) (As := [.int (nI k)]) (rest := []) ⟨hx, hb, hml, hown, hts⟩ (c_M_isRight_f l dC dI am cm th mw mwr mfl mact on cut mrec mlog mlive had mser mcur mrd mwt worn pg pla sou fou k (by omega) (hmw)) (cwV 1 hts (g_V t_927 t_929 s_47 t_6 t_930) rfl rfl rfl (by decide +kernel) ⟨by decide, by decide⟩) (xR_v hP hK 0 rfl rfl) rfl rfl hl.1 rfl (lv_room (Nat.le_of_ble_eq_true rfl)) d_M_latest_12 ⟨Nat.le_refl _, Nat.le_refl _⟩).run (fun r12 q12 => ?_)
        subst q12
        refine lv_if_eq (tgt := 68) hx hb d_M_latest_15 (by decide) (fun c15 => ?_) (fun c15 => ?_)
        ·
          refine lv_iinc (k := 3) (v := nI (k + 1)) hx hb d_M_latest_68 hl rfl (nI_1 _) (by decide) rfl (fun ls hl => ?_)
          have hl : lv_has ls 4 [(3, .int (nI (k + 1))), (0, .ref (am 0)), (1, .int leaf), (2, .int (-1))] := hl
          refine lv_goto (tgt := 4) hx hb d_M_latest_71 (by decide) ?_
          exact ih4 (k + 1) ls (by omega) (by omega) (lv_sub hl [1, 2, 3, 0] rfl)
        ·
          exact absurd c15 (by decide)
  exact lp4 _ 0 ls (Nat.lt_succ_self _) (by omega) (lv_sub hl [2, 3, 1, 0] rfl)
end
section
set_option maxHeartbeats 4000000 in
set_option maxRecDepth 100000 in
theorem c_M_axle_ok (l : Launch) (dC : Nat → ClassId) (dI : Nat → Nat → Nat) (am cm : Nat → Nat) (sz : Nat) (th : Int32) (mw mwr mfl mact : Nat → Int32) (on cut mrec : Int32) (mlog mlive had : Nat → Int32) (mser mcur mrd mwt worn : Int32) (pg : Nat → Int32) (pla sou fou : Int32) (st : Int32) (hok : (nI 1 ≤ st ∧ st ≤ nI 1200)) : Met l y_M_axle w_M_axle ({ frames := 1, cells := 0, slots := 0, locals := 22 }) (xP (dC, dI) vwCl (mt cm) (mw_ am cm th mw mwr mfl mact (nI 1) (-1) (nI 0) mlog mlive had (nI 0) (-1) (nI 0) (nI 0) (nI 0) pg pla sou fou) sz [.ref (am 0), .int st]) (va_Qi (fun r (u : Unit) => r = nI 1) (fun (u : Unit) (t : State) => xB (dC, dI) vwCl (mt cm) (xA 9 am sz) (mw_ am cm (nI 0) mw mwr mfl mact (nI 1) (-1) (nI 0) mlog mlive had (nI 0) (-1) (nI (0 + 1)) (nI 0 + st) (nI 0) pg pla sou fou) t) (xA 9 am sz)) 0 0 (xA 9 am sz) := by
  refine Met.ofW (cc := b_M_axle) (maxL := 2) (ret := (some (.int))) (by decide) rfl ?_
  intro P e s m args below meth c0 s₁ B hml hv
  obtain ⟨rfl, hsz, hP, hK, hD0⟩ := hv
  have hx := B.exec
  have hb := B.bytes
  have hr := B.returns
  have hts := atoms_spec (ws := w_M_axle) B.pre
  have hown : s.vm.findClass R_M = some m.cls := findClass_of_methodNamed B.named
  have hlocks := B.notSynchronized
  subst hsz
  have hD := mw_D (sz := s.heap.size) hD0
  have hS : va_S (xA 9 am s.heap.size) s.heap s.heap [] := va_S.rf
  have hA : ∀ q : Nat, s.heap.size ≤ q → (xA 9 am s.heap.size) q := fun q h => Or.inr h
  have hl := lv_entry ([.ref (am 0), .int st]) (n := 2) (Nat.le_of_ble_eq_true rfl)
  rw [lg_entry_eq]
  generalize (lg_sl ([.ref (am 0), .int st]) ++ List.replicate (2 - (lg_sl ([.ref (am 0), .int st])).length) Slot.unset).toArray = ls at hl ⊢
  have hl : lv_has ls 2 [(0, .ref (am 0)), (1, .int st)] := hl
  refine lv_aload_n hx hb d_M_axle_0 rfl (lv_at hl 0 rfl) ?_
  refine lv_iconst (v := nI 1) hx hb d_M_axle_1 (by decide) ?_
  refine lv_iload_n hx hb d_M_axle_2 rfl (lv_at hl 1 rfl) ?_
  refine lv_iconst (v := nI 1) hx hb d_M_axle_3 (by decide) ?_
  refine lv_sipush (v := nI 1200) hx hb d_M_axle_4 (by decide) ?_
  refine vp_callSi (va_runS (As := [.int st, .int (nI 1), .int (nI 1200)]) (rest := [.int (nI 1), .ref (am 0)]) ⟨hx, hb, hml, hown, hts⟩ (c_M_isIn l dC dI st (nI 1) (nI 1200) ) (cwS 3 hts (g_S t_781 t_782 t_6 t_783) rfl rfl rfl (by decide +kernel) ⟨by decide, by decide⟩) (xR_s (va_P.sub hP [] rfl) (hK.sub [] rfl)) rfl rfl hl.1 rfl (lv_room (Nat.le_of_ble_eq_true rfl)) d_M_axle_7 ⟨Nat.le_refl _, Nat.le_refl _⟩).run (fun r7 q7 => ?_)
  obtain ⟨rfl, -⟩ := q7.resolve_right (fun z => z.2 (hok))
  refine lv_if_ne (tgt := 17) hx hb d_M_axle_10 (by decide) (fun c10 => ?_) (fun c10 => ?_)
  ·
    refine lv_iconst (v := nI 0) hx hb d_M_axle_17 (by decide) ?_
    have hSz := hS.1
    refine va_calli (va_runV (C := R_M) (As := [.int (nI 1), .int (nI 0)]) (rest := []) ⟨hx, hb, hml, hown, hts⟩ (c_M_fails_0 l dC dI am cm s.heap.size th mw mwr mfl mact (nI 1) (-1) (nI 0) mlog mlive had (nI 0) (-1) (nI 0) (nI 0) (nI 0) pg pla sou fou (nI 1) ) (cwV 2 hts (g_V t_784 t_786 s_22 t_6 t_787) rfl rfl rfl (by decide +kernel) ⟨by decide, by decide⟩) (xP_v hP hK hD 0 rfl rfl) rfl rfl hl.1 rfl (lv_room (Nat.le_of_ble_eq_true rfl)) d_M_axle_18 ⟨Nat.le_refl _, Nat.le_refl _⟩) hS (fun q _ h => xA_up hS.1 q h) (fun q h => xA_up hS.1 q h) (fun r18 u18 t H1 locs1 ht hvm q18 hB hz1 hk1 hS => ?_)
    obtain ⟨hP1, hK1, hD1⟩ := hB
    rw [ht] at hP1
    have hD : va_D (xA 9 am s.heap.size) (mw_ am cm (nI 0) mw mwr mfl mact (nI 1) (-1) (nI 0) mlog mlive had (nI 0) (-1) (nI 0) (nI 0) (nI 0) pg pla sou fou) := hD1.weaken (fun _ q _ h => xA_up hSz _ h)
    have hP : va_P (dC, dI) vwCl (mw_ am cm (nI 0) mw mwr mfl mact (nI 1) (-1) (nI 0) mlog mlive had (nI 0) (-1) (nI 0) (nI 0) (nI 0) pg pla sou fou) H1 := hP1
    generalize H1 = H at hP hS ⊢
    generalize locs1 = locs at hS ⊢
    subst q18
    refine lv_if_ne (tgt := 53) hx hb d_M_axle_21 (by decide) (fun c21 => ?_) (fun c21 => ?_)
    ·
      exact absurd c21 (by decide)
    ·
      refine lv_aload_n hx hb d_M_axle_24 rfl (lv_at hl 0 rfl) ?_
      refine lv_iconst (v := nI 2) hx hb d_M_axle_25 (by decide) ?_
      refine lv_aload_n hx hb d_M_axle_26 rfl (lv_at hl 0 rfl) ?_
      refine va_get (D := (dC, dI)) (ci := 5) (v := .int (nI 1)) (C := R_M) (T := F_M) (N := 20) hx hb hts (fun w h => List.mem_cons_of_mem _ (in_M w h)) hown hK hP 0 rfl rfl 5 (by decide) (hts (.fieldLink R_M 23 R_M "on" "Z") (List.mem_cons_of_mem _ t_717)) (fun _ h9 => h9) rfl d_M_axle_27 ?_
      refine lv_if_eq (tgt := 42) hx hb d_M_axle_30 (by decide) (fun c30 => ?_) (fun c30 => ?_)
      ·
        exact absurd c30 (by decide)
      ·
        refine lv_aload_n hx hb d_M_axle_33 rfl (lv_at hl 0 rfl) ?_
        refine va_get (D := (dC, dI)) (ci := 5) (v := .int (nI 0)) (C := R_M) (T := F_M) (N := 20) hx hb hts (fun w h => List.mem_cons_of_mem _ (in_M w h)) hown hK hP 0 rfl rfl 13 (by decide) (hts (.fieldLink R_M 58 R_M "readings" "I") (List.mem_cons_of_mem _ t_725)) (fun _ h9 => h9) rfl d_M_axle_34 ?_
        refine lv_bipush (v := nI 9) hx hb d_M_axle_37 (by decide) ?_
        refine lv_icmp_ne (tgt := 46) hx hb d_M_axle_39 (by decide) (fun c39 => ?_) (fun c39 => ?_)
        ·
          refine lv_iconst (v := nI 0) hx hb d_M_axle_46 (by decide) ?_
          have hSz := hS.1
          refine va_calli (va_runV (C := R_M) (As := [.int (nI 2), .int (nI 0)]) (rest := []) ⟨hx, hb, hml, hown, hts⟩ (c_M_fails_0 l dC dI am cm H.size (nI 0) mw mwr mfl mact (nI 1) (-1) (nI 0) mlog mlive had (nI 0) (-1) (nI 0) (nI 0) (nI 0) pg pla sou fou (nI 2) ) (cwV 2 hts (g_V t_784 t_786 s_22 t_6 t_787) rfl rfl rfl (by decide +kernel) ⟨by decide, by decide⟩) (xP_v hP hK hD 0 rfl rfl) rfl rfl hl.1 rfl (lv_room (Nat.le_of_ble_eq_true rfl)) d_M_axle_47 ⟨Nat.le_refl _, Nat.le_refl _⟩) hS (fun q _ h => xA_up hS.1 q h) (fun q h => xA_up hS.1 q h) (fun r47 u47 t H1 locs1 ht hvm q47 hB hz1 hk1 hS => ?_)
          obtain ⟨hP1, hK1, hD1⟩ := hB
          rw [ht] at hP1
          have hD : va_D (xA 9 am s.heap.size) (mw_ am cm (nI 0) mw mwr mfl mact (nI 1) (-1) (nI 0) mlog mlive had (nI 0) (-1) (nI 0) (nI 0) (nI 0) pg pla sou fou) := hD1.weaken (fun _ q _ h => xA_up hSz _ h)
          have hP : va_P (dC, dI) vwCl (mw_ am cm (nI 0) mw mwr mfl mact (nI 1) (-1) (nI 0) mlog mlive had (nI 0) (-1) (nI 0) (nI 0) (nI 0) pg pla sou fou) H1 := hP1
          generalize H1 = H at hP hS ⊢
          generalize locs1 = locs at hS ⊢
          subst q47
          refine lv_if_eq (tgt := 55) hx hb d_M_axle_50 (by decide) (fun c50 => ?_) (fun c50 => ?_)
          ·
            refine lv_aload_n hx hb d_M_axle_55 rfl (lv_at hl 0 rfl) ?_
            refine lv_dup hx hb d_M_axle_56 rfl ?_
            refine va_get (D := (dC, dI)) (ci := 5) (v := .int (nI 0)) (C := R_M) (T := F_M) (N := 20) hx hb hts (fun w h => List.mem_cons_of_mem _ (in_M w h)) hown hK hP 0 rfl rfl 13 (by decide) (hts (.fieldLink R_M 58 R_M "readings" "I") (List.mem_cons_of_mem _ t_725)) (fun _ h9 => h9) rfl d_M_axle_57 ?_
            refine lv_iconst (v := nI 1) hx hb d_M_axle_60 (by decide) ?_
            refine lv_iadd hx hb d_M_axle_61 ?_
            refine tp_i (y := nI (0 + 1)) (nI_add _ _) ?_
            refine va_put (D := (dC, dI)) (ci := 5) (v := .int (nI (0 + 1))) (ty := .int) (C := R_M) (T := F_M) (N := 20) hx hb hts (fun w h => List.mem_cons_of_mem _ (in_M w h)) t_M ok_M nm_M hown hK hP hD hS 0 rfl rfl 13 (by decide) (hts (.fieldLink R_M 58 R_M "readings" "I") (List.mem_cons_of_mem _ t_725)) (fun _ h9 => h9) rfl (by decide +kernel) rfl rfl (Nat.le_of_ble_eq_true rfl) d_M_axle_62 (fun H locs hP hD hS => ?_)
            have hP : va_P (dC, dI) vwCl (mw_ am cm (nI 0) mw mwr mfl mact (nI 1) (-1) (nI 0) mlog mlive had (nI 0) (-1) (nI (0 + 1)) (nI 0) (nI 0) pg pla sou fou) H := hP
            have hD : va_D (xA 9 am s.heap.size) (mw_ am cm (nI 0) mw mwr mfl mact (nI 1) (-1) (nI 0) mlog mlive had (nI 0) (-1) (nI (0 + 1)) (nI 0) (nI 0) pg pla sou fou) := hD
            refine lv_aload_n hx hb d_M_axle_65 rfl (lv_at hl 0 rfl) ?_
            refine lv_dup hx hb d_M_axle_66 rfl ?_
            refine va_get (D := (dC, dI)) (ci := 5) (v := .int (nI 0)) (C := R_M) (T := F_M) (N := 20) hx hb hts (fun w h => List.mem_cons_of_mem _ (in_M w h)) hown hK hP 0 rfl rfl 14 (by decide) (hts (.fieldLink R_M 61 R_M "weight" "I") (List.mem_cons_of_mem _ t_726)) (fun _ h9 => h9) rfl d_M_axle_67 ?_
            refine lv_iload_n hx hb d_M_axle_70 rfl (lv_at hl 1 rfl) ?_
            refine lv_iadd hx hb d_M_axle_71 ?_
            refine va_put (D := (dC, dI)) (ci := 5) (v := .int ((nI 0) + st)) (ty := .int) (C := R_M) (T := F_M) (N := 20) hx hb hts (fun w h => List.mem_cons_of_mem _ (in_M w h)) t_M ok_M nm_M hown hK hP hD hS 0 rfl rfl 14 (by decide) (hts (.fieldLink R_M 61 R_M "weight" "I") (List.mem_cons_of_mem _ t_726)) (fun _ h9 => h9) rfl (by decide +kernel) rfl rfl (Nat.le_of_ble_eq_true rfl) d_M_axle_72 (fun H locs hP hD hS => ?_)
            have hP : va_P (dC, dI) vwCl (mw_ am cm (nI 0) mw mwr mfl mact (nI 1) (-1) (nI 0) mlog mlive had (nI 0) (-1) (nI (0 + 1)) ((nI 0) + st) (nI 0) pg pla sou fou) H := hP
            have hD : va_D (xA 9 am s.heap.size) (mw_ am cm (nI 0) mw mwr mfl mact (nI 1) (-1) (nI 0) mlog mlive had (nI 0) (-1) (nI (0 + 1)) ((nI 0) + st) (nI 0) pg pla sou fou) := hD
            refine lv_aload_n hx hb d_M_axle_75 rfl (lv_at hl 0 rfl) ?_
            refine va_get (D := (dC, dI)) (ci := 5) (v := .int (nI (0 + 1))) (C := R_M) (T := F_M) (N := 20) hx hb hts (fun w h => List.mem_cons_of_mem _ (in_M w h)) hown hK hP 0 rfl rfl 13 (by decide) (hts (.fieldLink R_M 58 R_M "readings" "I") (List.mem_cons_of_mem _ t_725)) (fun _ h9 => h9) rfl d_M_axle_76 ?_
            exact W.iret (v := nI (0 + 1)) hx hb hr (fun t ht hW => ⟨⟨nI (0 + 1), (), rfl, by first | rfl | trivial | omega, ⟨by rw [ht]; exact hP, va_K.moved hW.alike hK, hD⟩⟩, hS.F ht⟩) hS.2.2 d_M_axle_79
          ·
            exact absurd c50 (by decide)
        ·
          exact absurd c39 (by decide)
  ·
    exact absurd c10 (by decide)
set_option maxHeartbeats 4000000 in
set_option maxRecDepth 100000 in
theorem c_M_axle_bad (l : Launch) (dC : Nat → ClassId) (dI : Nat → Nat → Nat) (am cm : Nat → Nat) (sz : Nat) (th : Int32) (mw mwr mfl mact : Nat → Int32) (on cut mrec : Int32) (mlog mlive had : Nat → Int32) (mser mcur mrd mwt worn : Int32) (pg : Nat → Int32) (pla sou fou : Int32) (st : Int32) (hok : ¬ (nI 1 ≤ st ∧ st ≤ nI 1200)) : Met l y_M_axle w_M_axle ({ frames := 1, cells := 0, slots := 0, locals := 22 }) (xP (dC, dI) vwCl (mt cm) (mw_ am cm th mw mwr mfl mact (nI 1) (-1) (nI 0) mlog mlive had (nI 0) (-1) (nI 0) (nI 0) (nI 0) pg pla sou fou) sz [.ref (am 0), .int st]) (va_Qi (fun r (u : Unit) => r = nI 0) (fun (u : Unit) (t : State) => xB (dC, dI) vwCl (mt cm) (xA 9 am sz) (mw_ am cm (nI 1) mw mwr mfl mact (nI 1) (-1) (nI 0) mlog mlive had (nI 0) (-1) (nI 0) (nI 0) (nI 0) pg pla sou fou) t) (xA 9 am sz)) 0 0 (xA 9 am sz) := by
  refine Met.ofW (cc := b_M_axle) (maxL := 2) (ret := (some (.int))) (by decide) rfl ?_
  intro P e s m args below meth c0 s₁ B hml hv
  obtain ⟨rfl, hsz, hP, hK, hD0⟩ := hv
  have hx := B.exec
  have hb := B.bytes
  have hr := B.returns
  have hts := atoms_spec (ws := w_M_axle) B.pre
  have hown : s.vm.findClass R_M = some m.cls := findClass_of_methodNamed B.named
  have hlocks := B.notSynchronized
  subst hsz
  have hD := mw_D (sz := s.heap.size) hD0
  have hS : va_S (xA 9 am s.heap.size) s.heap s.heap [] := va_S.rf
  have hA : ∀ q : Nat, s.heap.size ≤ q → (xA 9 am s.heap.size) q := fun q h => Or.inr h
  have hl := lv_entry ([.ref (am 0), .int st]) (n := 2) (Nat.le_of_ble_eq_true rfl)
  rw [lg_entry_eq]
  generalize (lg_sl ([.ref (am 0), .int st]) ++ List.replicate (2 - (lg_sl ([.ref (am 0), .int st])).length) Slot.unset).toArray = ls at hl ⊢
  have hl : lv_has ls 2 [(0, .ref (am 0)), (1, .int st)] := hl
  refine lv_aload_n hx hb d_M_axle_0 rfl (lv_at hl 0 rfl) ?_
  refine lv_iconst (v := nI 1) hx hb d_M_axle_1 (by decide) ?_
  refine lv_iload_n hx hb d_M_axle_2 rfl (lv_at hl 1 rfl) ?_
  refine lv_iconst (v := nI 1) hx hb d_M_axle_3 (by decide) ?_
  refine lv_sipush (v := nI 1200) hx hb d_M_axle_4 (by decide) ?_
  refine vp_callSi (va_runS (As := [.int st, .int (nI 1), .int (nI 1200)]) (rest := [.int (nI 1), .ref (am 0)]) ⟨hx, hb, hml, hown, hts⟩ (c_M_isIn l dC dI st (nI 1) (nI 1200) ) (cwS 3 hts (g_S t_781 t_782 t_6 t_783) rfl rfl rfl (by decide +kernel) ⟨by decide, by decide⟩) (xR_s (va_P.sub hP [] rfl) (hK.sub [] rfl)) rfl rfl hl.1 rfl (lv_room (Nat.le_of_ble_eq_true rfl)) d_M_axle_7 ⟨Nat.le_refl _, Nat.le_refl _⟩).run (fun r7 q7 => ?_)
  obtain ⟨rfl, -⟩ := q7.resolve_left (fun z => (hok) z.2)
  refine lv_if_ne (tgt := 17) hx hb d_M_axle_10 (by decide) (fun c10 => ?_) (fun c10 => ?_)
  ·
    exact absurd c10 (by decide)
  ·
    refine lv_iconst (v := nI 1) hx hb d_M_axle_13 (by decide) ?_
    refine lv_goto (tgt := 18) hx hb d_M_axle_14 (by decide) ?_
    have hSz := hS.1
    refine va_calli (va_runV (C := R_M) (As := [.int (nI 1), .int (nI 1)]) (rest := []) ⟨hx, hb, hml, hown, hts⟩ (c_M_fails_1 l dC dI am cm s.heap.size th mw mwr mfl mact (nI 1) (-1) (nI 0) mlog mlive had (nI 0) (-1) (nI 0) (nI 0) (nI 0) pg pla sou fou (nI 1) ) (cwV 2 hts (g_V t_784 t_786 s_22 t_6 t_787) rfl rfl rfl (by decide +kernel) ⟨by decide, by decide⟩) (xP_v hP hK hD 0 rfl rfl) rfl rfl hl.1 rfl (lv_room (Nat.le_of_ble_eq_true rfl)) d_M_axle_18 ⟨Nat.le_refl _, Nat.le_refl _⟩) hS (fun q _ h => xA_up hS.1 q h) (fun q h => xA_up hS.1 q h) (fun r18 u18 t H1 locs1 ht hvm q18 hB hz1 hk1 hS => ?_)
    obtain ⟨hP1, hK1, hD1⟩ := hB
    rw [ht] at hP1
    have hD : va_D (xA 9 am s.heap.size) (mw_ am cm (nI 1) mw mwr mfl mact (nI 1) (-1) (nI 0) mlog mlive had (nI 0) (-1) (nI 0) (nI 0) (nI 0) pg pla sou fou) := hD1.weaken (fun _ q _ h => xA_up hSz _ h)
    have hP : va_P (dC, dI) vwCl (mw_ am cm (nI 1) mw mwr mfl mact (nI 1) (-1) (nI 0) mlog mlive had (nI 0) (-1) (nI 0) (nI 0) (nI 0) pg pla sou fou) H1 := hP1
    generalize H1 = H at hP hS ⊢
    generalize locs1 = locs at hS ⊢
    subst q18
    refine lv_if_ne (tgt := 53) hx hb d_M_axle_21 (by decide) (fun c21 => ?_) (fun c21 => ?_)
    ·
      refine lv_iconst (v := nI 0) hx hb d_M_axle_53 (by decide) ?_
      exact W.iret (v := nI 0) hx hb hr (fun t ht hW => ⟨⟨nI 0, (), rfl, by first | rfl | trivial | omega, ⟨by rw [ht]; exact hP, va_K.moved hW.alike hK, hD⟩⟩, hS.F ht⟩) hS.2.2 d_M_axle_54
    ·
      exact absurd c21 (by decide)
set_option maxHeartbeats 4000000 in
set_option maxRecDepth 100000 in
theorem c_M_close_ok (l : Launch) (dC : Nat → ClassId) (dI : Nat → Nat → Nat) (am cm : Nat → Nat) (sz : Nat) (th : Int32) (mw mwr mfl mact : Nat → Int32) (on cut mrec : Int32) (mlog mlive had : Nat → Int32) (mser mcur mrd mwt worn : Int32) (pg : Nat → Int32) (pla sou fou : Int32) (plate tare product clock : Int32) (h1 : (nI 0 ≤ tare ∧ tare ≤ nI 216000)) (h2 : (nI 0 ≤ product ∧ product ≤ nI 39)) (h3 : (nI 0 ≤ clock ∧ clock ≤ nI 67108863)) : Met l y_M_close w_M_close ({ frames := 1, cells := 0, slots := 0, locals := 22 }) (xP (dC, dI) vwCl (mt cm) (mw_ am cm th mw mwr mfl mact (nI 1) (-1) (nI 0) mlog mlive had (nI 0) (-1) (nI 0) (nI 0) (nI 0) pg pla sou fou) sz [.ref (am 0), .int plate, .int tare, .int product, .int clock]) (va_Qi (fun r (u : Unit) => r = nI 0) (fun (u : Unit) (t : State) => xB (dC, dI) vwCl (mt cm) (xA 9 am sz) (mw_ am cm (nI 0) mw mwr mfl mact (nI 1) (-1) (nI 0) mlog mlive had (nI 0) (-1) (nI 0) (nI 0) (nI 0) pg pla sou fou) t) (xA 9 am sz)) 0 0 (xA 9 am sz) := by
  refine Met.ofW (cc := b_M_close) (maxL := 7) (ret := (some (.int))) (by decide) rfl ?_
  intro P e s m args below meth c0 s₁ B hml hv
  obtain ⟨rfl, hsz, hP, hK, hD0⟩ := hv
  have hx := B.exec
  have hb := B.bytes
  have hr := B.returns
  have hts := atoms_spec (ws := w_M_close) B.pre
  have hown : s.vm.findClass R_M = some m.cls := findClass_of_methodNamed B.named
  have hlocks := B.notSynchronized
  subst hsz
  have hD := mw_D (sz := s.heap.size) hD0
  have hS : va_S (xA 9 am s.heap.size) s.heap s.heap [] := va_S.rf
  have hA : ∀ q : Nat, s.heap.size ≤ q → (xA 9 am s.heap.size) q := fun q h => Or.inr h
  have hl := lv_entry ([.ref (am 0), .int plate, .int tare, .int product, .int clock]) (n := 7) (Nat.le_of_ble_eq_true rfl)
  rw [lg_entry_eq]
  generalize (lg_sl ([.ref (am 0), .int plate, .int tare, .int product, .int clock]) ++ List.replicate (7 - (lg_sl ([.ref (am 0), .int plate, .int tare, .int product, .int clock])).length) Slot.unset).toArray = ls at hl ⊢
  have hl : lv_has ls 7 [(0, .ref (am 0)), (1, .int plate), (2, .int tare), (3, .int product), (4, .int clock)] := hl
  refine lv_iload_n hx hb d_M_close_0 rfl (lv_at hl 2 rfl) ?_
  refine lv_iconst (v := nI 0) hx hb d_M_close_1 (by decide) ?_
  refine lv_ldc (v := nI 216000) hx hb hown (hts (.constant R_M 141 216000) (List.mem_cons_of_mem _ t_792)) d_M_close_2 ?_
  refine vp_callSi (va_runS (As := [.int tare, .int (nI 0), .int (nI 216000)]) (rest := []) ⟨hx, hb, hml, hown, hts⟩ (c_M_isIn l dC dI tare (nI 0) (nI 216000) ) (cwS 3 hts (g_S t_781 t_782 t_6 t_783) rfl rfl rfl (by decide +kernel) ⟨by decide, by decide⟩) (xR_s (va_P.sub hP [] rfl) (hK.sub [] rfl)) rfl rfl hl.1 rfl (lv_room (Nat.le_of_ble_eq_true rfl)) d_M_close_4 ⟨Nat.le_refl _, Nat.le_refl _⟩).run (fun r4 q4 => ?_)
  obtain ⟨rfl, -⟩ := q4.resolve_right (fun z => z.2 (h1))
  refine lv_if_eq (tgt := 35) hx hb d_M_close_7 (by decide) (fun c7 => ?_) (fun c7 => ?_)
  ·
    exact absurd c7 (by decide)
  ·
    refine lv_iload_n hx hb d_M_close_10 rfl (lv_at hl 3 rfl) ?_
    refine lv_iconst (v := nI 0) hx hb d_M_close_11 (by decide) ?_
    refine lv_bipush (v := nI 39) hx hb d_M_close_12 (by decide) ?_
    refine vp_callSi (va_runS (As := [.int product, .int (nI 0), .int (nI 39)]) (rest := []) ⟨hx, hb, hml, hown, hts⟩ (c_M_isIn l dC dI product (nI 0) (nI 39) ) (cwS 3 hts (g_S t_781 t_782 t_6 t_783) rfl rfl rfl (by decide +kernel) ⟨by decide, by decide⟩) (xR_s (va_P.sub hP [] rfl) (hK.sub [] rfl)) rfl rfl hl.1 rfl (lv_room (Nat.le_of_ble_eq_true rfl)) d_M_close_14 ⟨Nat.le_refl _, Nat.le_refl _⟩).run (fun r14 q14 => ?_)
    obtain ⟨rfl, -⟩ := q14.resolve_right (fun z => z.2 (h2))
    refine lv_if_eq (tgt := 35) hx hb d_M_close_17 (by decide) (fun c17 => ?_) (fun c17 => ?_)
    ·
      exact absurd c17 (by decide)
    ·
      refine lv_iload hx hb d_M_close_20 (lv_at hl 4 rfl) ?_
      refine lv_iconst (v := nI 0) hx hb d_M_close_22 (by decide) ?_
      refine lv_ldc (v := nI 67108863) hx hb hown (hts (.constant R_M 142 67108863) (List.mem_cons_of_mem _ t_793)) d_M_close_23 ?_
      refine vp_callSi (va_runS (As := [.int clock, .int (nI 0), .int (nI 67108863)]) (rest := []) ⟨hx, hb, hml, hown, hts⟩ (c_M_isIn l dC dI clock (nI 0) (nI 67108863) ) (cwS 3 hts (g_S t_781 t_782 t_6 t_783) rfl rfl rfl (by decide +kernel) ⟨by decide, by decide⟩) (xR_s (va_P.sub hP [] rfl) (hK.sub [] rfl)) rfl rfl hl.1 rfl (lv_room (Nat.le_of_ble_eq_true rfl)) d_M_close_25 ⟨Nat.le_refl _, Nat.le_refl _⟩).run (fun r25 q25 => ?_)
      obtain ⟨rfl, -⟩ := q25.resolve_right (fun z => z.2 (h3))
      refine lv_if_eq (tgt := 35) hx hb d_M_close_28 (by decide) (fun c28 => ?_) (fun c28 => ?_)
      ·
        exact absurd c28 (by decide)
      ·
        refine lv_iconst (v := nI 1) hx hb d_M_close_31 (by decide) ?_
        refine lv_goto (tgt := 36) hx hb d_M_close_32 (by decide) ?_
        refine lv_istore hx hb d_M_close_36 hl (by decide) rfl (fun ls hl => ?_)
        have hl : lv_has ls 7 [(5, .int (nI 1)), (0, .ref (am 0)), (1, .int plate), (2, .int tare), (3, .int product), (4, .int clock)] := hl
        refine lv_aload_n hx hb d_M_close_38 rfl (lv_at hl 1 rfl) ?_
        refine lv_iconst (v := nI 1) hx hb d_M_close_39 (by decide) ?_
        refine lv_iload hx hb d_M_close_40 (lv_at hl 0 rfl) ?_
        refine lv_if_ne (tgt := 49) hx hb d_M_close_42 (by decide) (fun c42 => ?_) (fun c42 => ?_)
        ·
          refine lv_iconst (v := nI 0) hx hb d_M_close_49 (by decide) ?_
          have hSz := hS.1
          refine va_calli (va_runV (C := R_M) (As := [.int (nI 1), .int (nI 0)]) (rest := []) ⟨hx, hb, hml, hown, hts⟩ (c_M_fails_0 l dC dI am cm s.heap.size th mw mwr mfl mact (nI 1) (-1) (nI 0) mlog mlive had (nI 0) (-1) (nI 0) (nI 0) (nI 0) pg pla sou fou (nI 1) ) (cwV 2 hts (g_V t_784 t_786 s_22 t_6 t_787) rfl rfl rfl (by decide +kernel) ⟨by decide, by decide⟩) (xP_v hP hK hD 0 rfl rfl) rfl rfl hl.1 rfl (lv_room (Nat.le_of_ble_eq_true rfl)) d_M_close_50 ⟨Nat.le_refl _, Nat.le_refl _⟩) hS (fun q _ h => xA_up hS.1 q h) (fun q h => xA_up hS.1 q h) (fun r50 u50 t H1 locs1 ht hvm q50 hB hz1 hk1 hS => ?_)
          obtain ⟨hP1, hK1, hD1⟩ := hB
          rw [ht] at hP1
          have hD : va_D (xA 9 am s.heap.size) (mw_ am cm (nI 0) mw mwr mfl mact (nI 1) (-1) (nI 0) mlog mlive had (nI 0) (-1) (nI 0) (nI 0) (nI 0) pg pla sou fou) := hD1.weaken (fun _ q _ h => xA_up hSz _ h)
          have hP : va_P (dC, dI) vwCl (mw_ am cm (nI 0) mw mwr mfl mact (nI 1) (-1) (nI 0) mlog mlive had (nI 0) (-1) (nI 0) (nI 0) (nI 0) pg pla sou fou) H1 := hP1
          generalize H1 = H at hP hS ⊢
          generalize locs1 = locs at hS ⊢
          subst q50
          refine lv_if_ne (tgt := 76) hx hb d_M_close_53 (by decide) (fun c53 => ?_) (fun c53 => ?_)
          ·
            exact absurd c53 (by decide)
          ·
            refine lv_aload_n hx hb d_M_close_56 rfl (lv_at hl 1 rfl) ?_
            refine lv_iconst (v := nI 2) hx hb d_M_close_57 (by decide) ?_
            refine lv_aload_n hx hb d_M_close_58 rfl (lv_at hl 1 rfl) ?_
            refine va_get (D := (dC, dI)) (ci := 5) (v := .int (nI 1)) (C := R_M) (T := F_M) (N := 20) hx hb hts (fun w h => List.mem_cons_of_mem _ (in_M w h)) hown hK hP 0 rfl rfl 5 (by decide) (hts (.fieldLink R_M 23 R_M "on" "Z") (List.mem_cons_of_mem _ t_717)) (fun _ h9 => h9) rfl d_M_close_59 ?_
            refine lv_if_ne (tgt := 69) hx hb d_M_close_62 (by decide) (fun c62 => ?_) (fun c62 => ?_)
            ·
              refine lv_iconst (v := nI 0) hx hb d_M_close_69 (by decide) ?_
              have hSz := hS.1
              refine va_calli (va_runV (C := R_M) (As := [.int (nI 2), .int (nI 0)]) (rest := []) ⟨hx, hb, hml, hown, hts⟩ (c_M_fails_0 l dC dI am cm H.size (nI 0) mw mwr mfl mact (nI 1) (-1) (nI 0) mlog mlive had (nI 0) (-1) (nI 0) (nI 0) (nI 0) pg pla sou fou (nI 2) ) (cwV 2 hts (g_V t_784 t_786 s_22 t_6 t_787) rfl rfl rfl (by decide +kernel) ⟨by decide, by decide⟩) (xP_v hP hK hD 0 rfl rfl) rfl rfl hl.1 rfl (lv_room (Nat.le_of_ble_eq_true rfl)) d_M_close_70 ⟨Nat.le_refl _, Nat.le_refl _⟩) hS (fun q _ h => xA_up hS.1 q h) (fun q h => xA_up hS.1 q h) (fun r70 u70 t H1 locs1 ht hvm q70 hB hz1 hk1 hS => ?_)
              obtain ⟨hP1, hK1, hD1⟩ := hB
              rw [ht] at hP1
              have hD : va_D (xA 9 am s.heap.size) (mw_ am cm (nI 0) mw mwr mfl mact (nI 1) (-1) (nI 0) mlog mlive had (nI 0) (-1) (nI 0) (nI 0) (nI 0) pg pla sou fou) := hD1.weaken (fun _ q _ h => xA_up hSz _ h)
              have hP : va_P (dC, dI) vwCl (mw_ am cm (nI 0) mw mwr mfl mact (nI 1) (-1) (nI 0) mlog mlive had (nI 0) (-1) (nI 0) (nI 0) (nI 0) pg pla sou fou) H1 := hP1
              generalize H1 = H at hP hS ⊢
              generalize locs1 = locs at hS ⊢
              subst q70
              refine lv_if_eq (tgt := 78) hx hb d_M_close_73 (by decide) (fun c73 => ?_) (fun c73 => ?_)
              ·
                refine lv_aload_n hx hb d_M_close_78 rfl (lv_at hl 1 rfl) ?_
                refine va_get (D := (dC, dI)) (ci := 5) (v := .int (nI 0)) (C := R_M) (T := F_M) (N := 20) hx hb hts (fun w h => List.mem_cons_of_mem _ (in_M w h)) hown hK hP 0 rfl rfl 13 (by decide) (hts (.fieldLink R_M 58 R_M "readings" "I") (List.mem_cons_of_mem _ t_725)) (fun _ h9 => h9) rfl d_M_close_79 ?_
                refine lv_if_eq (tgt := 114) hx hb d_M_close_82 (by decide) (fun c82 => ?_) (fun c82 => ?_)
                ·
                  refine lv_iconst (v := nI 0) hx hb d_M_close_114 (by decide) ?_
                  exact W.iret (v := nI 0) hx hb hr (fun t ht hW => ⟨⟨nI 0, (), rfl, by first | rfl | trivial | omega, ⟨by rw [ht]; exact hP, va_K.moved hW.alike hK, hD⟩⟩, hS.F ht⟩) hS.2.2 d_M_close_115
                ·
                  exact absurd c82 (by decide)
              ·
                exact absurd c73 (by decide)
            ·
              exact absurd c62 (by decide)
        ·
          exact absurd c42 (by decide)
set_option maxHeartbeats 4000000 in
set_option maxRecDepth 100000 in
theorem c_M_close_bad (l : Launch) (dC : Nat → ClassId) (dI : Nat → Nat → Nat) (am cm : Nat → Nat) (sz : Nat) (th : Int32) (mw mwr mfl mact : Nat → Int32) (on cut mrec : Int32) (mlog mlive had : Nat → Int32) (mser mcur mrd mwt worn : Int32) (pg : Nat → Int32) (pla sou fou : Int32) (plate tare product clock : Int32) (hbad : ¬ ((nI 0 ≤ tare ∧ tare ≤ nI 216000) ∧ (nI 0 ≤ product ∧ product ≤ nI 39) ∧ (nI 0 ≤ clock ∧ clock ≤ nI 67108863))) : Met l y_M_close w_M_close ({ frames := 1, cells := 0, slots := 0, locals := 22 }) (xP (dC, dI) vwCl (mt cm) (mw_ am cm th mw mwr mfl mact (nI 1) (-1) (nI 0) mlog mlive had (nI 0) (-1) (nI 0) (nI 0) (nI 0) pg pla sou fou) sz [.ref (am 0), .int plate, .int tare, .int product, .int clock]) (va_Qi (fun r (u : Unit) => r = nI 0) (fun (u : Unit) (t : State) => xB (dC, dI) vwCl (mt cm) (xA 9 am sz) (mw_ am cm (nI 1) mw mwr mfl mact (nI 1) (-1) (nI 0) mlog mlive had (nI 0) (-1) (nI 0) (nI 0) (nI 0) pg pla sou fou) t) (xA 9 am sz)) 0 0 (xA 9 am sz) := by
  refine Met.ofW (cc := b_M_close) (maxL := 7) (ret := (some (.int))) (by decide) rfl ?_
  intro P e s m args below meth c0 s₁ B hml hv
  obtain ⟨rfl, hsz, hP, hK, hD0⟩ := hv
  have hx := B.exec
  have hb := B.bytes
  have hr := B.returns
  have hts := atoms_spec (ws := w_M_close) B.pre
  have hown : s.vm.findClass R_M = some m.cls := findClass_of_methodNamed B.named
  have hlocks := B.notSynchronized
  subst hsz
  have hD := mw_D (sz := s.heap.size) hD0
  have hS : va_S (xA 9 am s.heap.size) s.heap s.heap [] := va_S.rf
  have hA : ∀ q : Nat, s.heap.size ≤ q → (xA 9 am s.heap.size) q := fun q h => Or.inr h
  have hl := lv_entry ([.ref (am 0), .int plate, .int tare, .int product, .int clock]) (n := 7) (Nat.le_of_ble_eq_true rfl)
  rw [lg_entry_eq]
  generalize (lg_sl ([.ref (am 0), .int plate, .int tare, .int product, .int clock]) ++ List.replicate (7 - (lg_sl ([.ref (am 0), .int plate, .int tare, .int product, .int clock])).length) Slot.unset).toArray = ls at hl ⊢
  have hl : lv_has ls 7 [(0, .ref (am 0)), (1, .int plate), (2, .int tare), (3, .int product), (4, .int clock)] := hl
  refine lv_iload_n hx hb d_M_close_0 rfl (lv_at hl 2 rfl) ?_
  refine lv_iconst (v := nI 0) hx hb d_M_close_1 (by decide) ?_
  refine lv_ldc (v := nI 216000) hx hb hown (hts (.constant R_M 141 216000) (List.mem_cons_of_mem _ t_792)) d_M_close_2 ?_
  refine vp_callSi (va_runS (As := [.int tare, .int (nI 0), .int (nI 216000)]) (rest := []) ⟨hx, hb, hml, hown, hts⟩ (c_M_isIn l dC dI tare (nI 0) (nI 216000) ) (cwS 3 hts (g_S t_781 t_782 t_6 t_783) rfl rfl rfl (by decide +kernel) ⟨by decide, by decide⟩) (xR_s (va_P.sub hP [] rfl) (hK.sub [] rfl)) rfl rfl hl.1 rfl (lv_room (Nat.le_of_ble_eq_true rfl)) d_M_close_4 ⟨Nat.le_refl _, Nat.le_refl _⟩).run (fun r4 q4 => ?_)
  rcases q4 with ⟨rfl, h4⟩ | ⟨rfl, h4⟩
  ·
    refine lv_if_eq (tgt := 35) hx hb d_M_close_7 (by decide) (fun c7 => ?_) (fun c7 => ?_)
    ·
      exact absurd c7 (by decide)
    ·
      refine lv_iload_n hx hb d_M_close_10 rfl (lv_at hl 3 rfl) ?_
      refine lv_iconst (v := nI 0) hx hb d_M_close_11 (by decide) ?_
      refine lv_bipush (v := nI 39) hx hb d_M_close_12 (by decide) ?_
      refine vp_callSi (va_runS (As := [.int product, .int (nI 0), .int (nI 39)]) (rest := []) ⟨hx, hb, hml, hown, hts⟩ (c_M_isIn l dC dI product (nI 0) (nI 39) ) (cwS 3 hts (g_S t_781 t_782 t_6 t_783) rfl rfl rfl (by decide +kernel) ⟨by decide, by decide⟩) (xR_s (va_P.sub hP [] rfl) (hK.sub [] rfl)) rfl rfl hl.1 rfl (lv_room (Nat.le_of_ble_eq_true rfl)) d_M_close_14 ⟨Nat.le_refl _, Nat.le_refl _⟩).run (fun r14 q14 => ?_)
      rcases q14 with ⟨rfl, h14⟩ | ⟨rfl, h14⟩
      ·
        refine lv_if_eq (tgt := 35) hx hb d_M_close_17 (by decide) (fun c17 => ?_) (fun c17 => ?_)
        ·
          exact absurd c17 (by decide)
        ·
          refine lv_iload hx hb d_M_close_20 (lv_at hl 4 rfl) ?_
          refine lv_iconst (v := nI 0) hx hb d_M_close_22 (by decide) ?_
          refine lv_ldc (v := nI 67108863) hx hb hown (hts (.constant R_M 142 67108863) (List.mem_cons_of_mem _ t_793)) d_M_close_23 ?_
          refine vp_callSi (va_runS (As := [.int clock, .int (nI 0), .int (nI 67108863)]) (rest := []) ⟨hx, hb, hml, hown, hts⟩ (c_M_isIn l dC dI clock (nI 0) (nI 67108863) ) (cwS 3 hts (g_S t_781 t_782 t_6 t_783) rfl rfl rfl (by decide +kernel) ⟨by decide, by decide⟩) (xR_s (va_P.sub hP [] rfl) (hK.sub [] rfl)) rfl rfl hl.1 rfl (lv_room (Nat.le_of_ble_eq_true rfl)) d_M_close_25 ⟨Nat.le_refl _, Nat.le_refl _⟩).run (fun r25 q25 => ?_)
          rcases q25 with ⟨rfl, h25⟩ | ⟨rfl, h25⟩
          ·
            refine lv_if_eq (tgt := 35) hx hb d_M_close_28 (by decide) (fun c28 => ?_) (fun c28 => ?_)
            ·
              exact absurd c28 (by decide)
            ·
              exact absurd ⟨h4, h14, h25⟩ hbad
          ·
            refine lv_if_eq (tgt := 35) hx hb d_M_close_28 (by decide) (fun c28 => ?_) (fun c28 => ?_)
            ·
              refine lv_iconst (v := nI 0) hx hb d_M_close_35 (by decide) ?_
              refine lv_istore hx hb d_M_close_36 hl (by decide) rfl (fun ls hl => ?_)
              have hl : lv_has ls 7 [(5, .int (nI 0)), (0, .ref (am 0)), (1, .int plate), (2, .int tare), (3, .int product), (4, .int clock)] := hl
              refine lv_aload_n hx hb d_M_close_38 rfl (lv_at hl 1 rfl) ?_
              refine lv_iconst (v := nI 1) hx hb d_M_close_39 (by decide) ?_
              refine lv_iload hx hb d_M_close_40 (lv_at hl 0 rfl) ?_
              refine lv_if_ne (tgt := 49) hx hb d_M_close_42 (by decide) (fun c42 => ?_) (fun c42 => ?_)
              ·
                exact absurd c42 (by decide)
              ·
                refine lv_iconst (v := nI 1) hx hb d_M_close_45 (by decide) ?_
                refine lv_goto (tgt := 50) hx hb d_M_close_46 (by decide) ?_
                have hSz := hS.1
                refine va_calli (va_runV (C := R_M) (As := [.int (nI 1), .int (nI 1)]) (rest := []) ⟨hx, hb, hml, hown, hts⟩ (c_M_fails_1 l dC dI am cm s.heap.size th mw mwr mfl mact (nI 1) (-1) (nI 0) mlog mlive had (nI 0) (-1) (nI 0) (nI 0) (nI 0) pg pla sou fou (nI 1) ) (cwV 2 hts (g_V t_784 t_786 s_22 t_6 t_787) rfl rfl rfl (by decide +kernel) ⟨by decide, by decide⟩) (xP_v hP hK hD 0 rfl rfl) rfl rfl hl.1 rfl (lv_room (Nat.le_of_ble_eq_true rfl)) d_M_close_50 ⟨Nat.le_refl _, Nat.le_refl _⟩) hS (fun q _ h => xA_up hS.1 q h) (fun q h => xA_up hS.1 q h) (fun r50 u50 t H1 locs1 ht hvm q50 hB hz1 hk1 hS => ?_)
                obtain ⟨hP1, hK1, hD1⟩ := hB
                rw [ht] at hP1
                have hD : va_D (xA 9 am s.heap.size) (mw_ am cm (nI 1) mw mwr mfl mact (nI 1) (-1) (nI 0) mlog mlive had (nI 0) (-1) (nI 0) (nI 0) (nI 0) pg pla sou fou) := hD1.weaken (fun _ q _ h => xA_up hSz _ h)
                have hP : va_P (dC, dI) vwCl (mw_ am cm (nI 1) mw mwr mfl mact (nI 1) (-1) (nI 0) mlog mlive had (nI 0) (-1) (nI 0) (nI 0) (nI 0) pg pla sou fou) H1 := hP1
                generalize H1 = H at hP hS ⊢
                generalize locs1 = locs at hS ⊢
                subst q50
                refine lv_if_ne (tgt := 76) hx hb d_M_close_53 (by decide) (fun c53 => ?_) (fun c53 => ?_)
                ·
                  refine lv_iconst (v := nI 0) hx hb d_M_close_76 (by decide) ?_
                  exact W.iret (v := nI 0) hx hb hr (fun t ht hW => ⟨⟨nI 0, (), rfl, by first | rfl | trivial | omega, ⟨by rw [ht]; exact hP, va_K.moved hW.alike hK, hD⟩⟩, hS.F ht⟩) hS.2.2 d_M_close_77
                ·
                  exact absurd c53 (by decide)
            ·
              exact absurd c28 (by decide)
      ·
        refine lv_if_eq (tgt := 35) hx hb d_M_close_17 (by decide) (fun c17 => ?_) (fun c17 => ?_)
        ·
          refine lv_iconst (v := nI 0) hx hb d_M_close_35 (by decide) ?_
          refine lv_istore hx hb d_M_close_36 hl (by decide) rfl (fun ls hl => ?_)
          have hl : lv_has ls 7 [(5, .int (nI 0)), (0, .ref (am 0)), (1, .int plate), (2, .int tare), (3, .int product), (4, .int clock)] := hl
          refine lv_aload_n hx hb d_M_close_38 rfl (lv_at hl 1 rfl) ?_
          refine lv_iconst (v := nI 1) hx hb d_M_close_39 (by decide) ?_
          refine lv_iload hx hb d_M_close_40 (lv_at hl 0 rfl) ?_
          refine lv_if_ne (tgt := 49) hx hb d_M_close_42 (by decide) (fun c42 => ?_) (fun c42 => ?_)
          ·
            exact absurd c42 (by decide)
          ·
            refine lv_iconst (v := nI 1) hx hb d_M_close_45 (by decide) ?_
            refine lv_goto (tgt := 50) hx hb d_M_close_46 (by decide) ?_
            have hSz := hS.1
            refine va_calli (va_runV (C := R_M) (As := [.int (nI 1), .int (nI 1)]) (rest := []) ⟨hx, hb, hml, hown, hts⟩ (c_M_fails_1 l dC dI am cm s.heap.size th mw mwr mfl mact (nI 1) (-1) (nI 0) mlog mlive had (nI 0) (-1) (nI 0) (nI 0) (nI 0) pg pla sou fou (nI 1) ) (cwV 2 hts (g_V t_784 t_786 s_22 t_6 t_787) rfl rfl rfl (by decide +kernel) ⟨by decide, by decide⟩) (xP_v hP hK hD 0 rfl rfl) rfl rfl hl.1 rfl (lv_room (Nat.le_of_ble_eq_true rfl)) d_M_close_50 ⟨Nat.le_refl _, Nat.le_refl _⟩) hS (fun q _ h => xA_up hS.1 q h) (fun q h => xA_up hS.1 q h) (fun r50 u50 t H1 locs1 ht hvm q50 hB hz1 hk1 hS => ?_)
            obtain ⟨hP1, hK1, hD1⟩ := hB
            rw [ht] at hP1
            have hD : va_D (xA 9 am s.heap.size) (mw_ am cm (nI 1) mw mwr mfl mact (nI 1) (-1) (nI 0) mlog mlive had (nI 0) (-1) (nI 0) (nI 0) (nI 0) pg pla sou fou) := hD1.weaken (fun _ q _ h => xA_up hSz _ h)
            have hP : va_P (dC, dI) vwCl (mw_ am cm (nI 1) mw mwr mfl mact (nI 1) (-1) (nI 0) mlog mlive had (nI 0) (-1) (nI 0) (nI 0) (nI 0) pg pla sou fou) H1 := hP1
            generalize H1 = H at hP hS ⊢
            generalize locs1 = locs at hS ⊢
            subst q50
            refine lv_if_ne (tgt := 76) hx hb d_M_close_53 (by decide) (fun c53 => ?_) (fun c53 => ?_)
            ·
              refine lv_iconst (v := nI 0) hx hb d_M_close_76 (by decide) ?_
              exact W.iret (v := nI 0) hx hb hr (fun t ht hW => ⟨⟨nI 0, (), rfl, by first | rfl | trivial | omega, ⟨by rw [ht]; exact hP, va_K.moved hW.alike hK, hD⟩⟩, hS.F ht⟩) hS.2.2 d_M_close_77
            ·
              exact absurd c53 (by decide)
        ·
          exact absurd c17 (by decide)
  ·
    refine lv_if_eq (tgt := 35) hx hb d_M_close_7 (by decide) (fun c7 => ?_) (fun c7 => ?_)
    ·
      refine lv_iconst (v := nI 0) hx hb d_M_close_35 (by decide) ?_
      refine lv_istore hx hb d_M_close_36 hl (by decide) rfl (fun ls hl => ?_)
      have hl : lv_has ls 7 [(5, .int (nI 0)), (0, .ref (am 0)), (1, .int plate), (2, .int tare), (3, .int product), (4, .int clock)] := hl
      refine lv_aload_n hx hb d_M_close_38 rfl (lv_at hl 1 rfl) ?_
      refine lv_iconst (v := nI 1) hx hb d_M_close_39 (by decide) ?_
      refine lv_iload hx hb d_M_close_40 (lv_at hl 0 rfl) ?_
      refine lv_if_ne (tgt := 49) hx hb d_M_close_42 (by decide) (fun c42 => ?_) (fun c42 => ?_)
      ·
        exact absurd c42 (by decide)
      ·
        refine lv_iconst (v := nI 1) hx hb d_M_close_45 (by decide) ?_
        refine lv_goto (tgt := 50) hx hb d_M_close_46 (by decide) ?_
        have hSz := hS.1
        refine va_calli (va_runV (C := R_M) (As := [.int (nI 1), .int (nI 1)]) (rest := []) ⟨hx, hb, hml, hown, hts⟩ (c_M_fails_1 l dC dI am cm s.heap.size th mw mwr mfl mact (nI 1) (-1) (nI 0) mlog mlive had (nI 0) (-1) (nI 0) (nI 0) (nI 0) pg pla sou fou (nI 1) ) (cwV 2 hts (g_V t_784 t_786 s_22 t_6 t_787) rfl rfl rfl (by decide +kernel) ⟨by decide, by decide⟩) (xP_v hP hK hD 0 rfl rfl) rfl rfl hl.1 rfl (lv_room (Nat.le_of_ble_eq_true rfl)) d_M_close_50 ⟨Nat.le_refl _, Nat.le_refl _⟩) hS (fun q _ h => xA_up hS.1 q h) (fun q h => xA_up hS.1 q h) (fun r50 u50 t H1 locs1 ht hvm q50 hB hz1 hk1 hS => ?_)
        obtain ⟨hP1, hK1, hD1⟩ := hB
        rw [ht] at hP1
        have hD : va_D (xA 9 am s.heap.size) (mw_ am cm (nI 1) mw mwr mfl mact (nI 1) (-1) (nI 0) mlog mlive had (nI 0) (-1) (nI 0) (nI 0) (nI 0) pg pla sou fou) := hD1.weaken (fun _ q _ h => xA_up hSz _ h)
        have hP : va_P (dC, dI) vwCl (mw_ am cm (nI 1) mw mwr mfl mact (nI 1) (-1) (nI 0) mlog mlive had (nI 0) (-1) (nI 0) (nI 0) (nI 0) pg pla sou fou) H1 := hP1
        generalize H1 = H at hP hS ⊢
        generalize locs1 = locs at hS ⊢
        subst q50
        refine lv_if_ne (tgt := 76) hx hb d_M_close_53 (by decide) (fun c53 => ?_) (fun c53 => ?_)
        ·
          refine lv_iconst (v := nI 0) hx hb d_M_close_76 (by decide) ?_
          exact W.iret (v := nI 0) hx hb hr (fun t ht hW => ⟨⟨nI 0, (), rfl, by first | rfl | trivial | omega, ⟨by rw [ht]; exact hP, va_K.moved hW.alike hK, hD⟩⟩, hS.F ht⟩) hS.2.2 d_M_close_77
        ·
          exact absurd c53 (by decide)
    ·
      exact absurd c7 (by decide)
set_option maxHeartbeats 4000000 in
set_option maxRecDepth 100000 in
theorem c_M_annul_ok (l : Launch) (dC : Nat → ClassId) (dI : Nat → Nat → Nat) (am cm : Nat → Nat) (sz : Nat) (th : Int32) (mw mwr mfl mact : Nat → Int32) (on cut mrec : Int32) (mlog mlive had : Nat → Int32) (mser mcur mrd mwt worn : Int32) (pg : Nat → Int32) (pla sou fou : Int32) (tno rea : Int32) (hok : (nI 0 ≤ rea ∧ rea ≤ nI 3)) : Met l y_M_annul w_M_annul ({ frames := 1, cells := 0, slots := 0, locals := 23 }) (xP (dC, dI) vwCl (mt cm) (mw_ am cm th mw mwr mfl mact (nI 1) (-1) (nI 0) mlog mlive had (nI 0) (-1) (nI 0) (nI 0) (nI 0) pg pla sou fou) sz [.ref (am 0), .int tno, .int rea]) (va_Qi (fun r (u : Unit) => r = nI 0) (fun (u : Unit) (t : State) => xB (dC, dI) vwCl (mt cm) (xA 9 am sz) (mw_ am cm (nI 0) mw mwr mfl mact (nI 1) (-1) (nI 0) mlog mlive had (nI 0) (-1) (nI 0) (nI 0) (nI 0) pg pla sou fou) t) (xA 9 am sz)) 0 0 (xA 9 am sz) := by
  refine Met.ofW (cc := b_M_annul) (maxL := 4) (ret := (some (.int))) (by decide) rfl ?_
  intro P e s m args below meth c0 s₁ B hml hv
  obtain ⟨rfl, hsz, hP, hK, hD0⟩ := hv
  have hx := B.exec
  have hb := B.bytes
  have hr := B.returns
  have hts := atoms_spec (ws := w_M_annul) B.pre
  have hown : s.vm.findClass R_M = some m.cls := findClass_of_methodNamed B.named
  have hlocks := B.notSynchronized
  subst hsz
  have hD := mw_D (sz := s.heap.size) hD0
  have hS : va_S (xA 9 am s.heap.size) s.heap s.heap [] := va_S.rf
  have hA : ∀ q : Nat, s.heap.size ≤ q → (xA 9 am s.heap.size) q := fun q h => Or.inr h
  have hl := lv_entry ([.ref (am 0), .int tno, .int rea]) (n := 4) (Nat.le_of_ble_eq_true rfl)
  rw [lg_entry_eq]
  generalize (lg_sl ([.ref (am 0), .int tno, .int rea]) ++ List.replicate (4 - (lg_sl ([.ref (am 0), .int tno, .int rea])).length) Slot.unset).toArray = ls at hl ⊢
  have hl : lv_has ls 4 [(0, .ref (am 0)), (1, .int tno), (2, .int rea)] := hl
  refine lv_aload_n hx hb d_M_annul_0 rfl (lv_at hl 0 rfl) ?_
  refine lv_iconst (v := nI 1) hx hb d_M_annul_1 (by decide) ?_
  refine lv_iload_n hx hb d_M_annul_2 rfl (lv_at hl 2 rfl) ?_
  refine lv_iconst (v := nI 0) hx hb d_M_annul_3 (by decide) ?_
  refine lv_iconst (v := nI 3) hx hb d_M_annul_4 (by decide) ?_
  refine vp_callSi (va_runS (As := [.int rea, .int (nI 0), .int (nI 3)]) (rest := [.int (nI 1), .ref (am 0)]) ⟨hx, hb, hml, hown, hts⟩ (c_M_isIn l dC dI rea (nI 0) (nI 3) ) (cwS 3 hts (g_S t_781 t_782 t_6 t_783) rfl rfl rfl (by decide +kernel) ⟨by decide, by decide⟩) (xR_s (va_P.sub hP [] rfl) (hK.sub [] rfl)) rfl rfl hl.1 rfl (lv_room (Nat.le_of_ble_eq_true rfl)) d_M_annul_5 ⟨Nat.le_refl _, Nat.le_refl _⟩).run (fun r5 q5 => ?_)
  obtain ⟨rfl, -⟩ := q5.resolve_right (fun z => z.2 (hok))
  refine lv_if_ne (tgt := 15) hx hb d_M_annul_8 (by decide) (fun c8 => ?_) (fun c8 => ?_)
  ·
    refine lv_iconst (v := nI 0) hx hb d_M_annul_15 (by decide) ?_
    have hSz := hS.1
    refine va_calli (va_runV (C := R_M) (As := [.int (nI 1), .int (nI 0)]) (rest := []) ⟨hx, hb, hml, hown, hts⟩ (c_M_fails_0 l dC dI am cm s.heap.size th mw mwr mfl mact (nI 1) (-1) (nI 0) mlog mlive had (nI 0) (-1) (nI 0) (nI 0) (nI 0) pg pla sou fou (nI 1) ) (cwV 2 hts (g_V t_784 t_786 s_22 t_6 t_787) rfl rfl rfl (by decide +kernel) ⟨by decide, by decide⟩) (xP_v hP hK hD 0 rfl rfl) rfl rfl hl.1 rfl (lv_room (Nat.le_of_ble_eq_true rfl)) d_M_annul_16 ⟨Nat.le_refl _, Nat.le_refl _⟩) hS (fun q _ h => xA_up hS.1 q h) (fun q h => xA_up hS.1 q h) (fun r16 u16 t H1 locs1 ht hvm q16 hB hz1 hk1 hS => ?_)
    obtain ⟨hP1, hK1, hD1⟩ := hB
    rw [ht] at hP1
    have hD : va_D (xA 9 am s.heap.size) (mw_ am cm (nI 0) mw mwr mfl mact (nI 1) (-1) (nI 0) mlog mlive had (nI 0) (-1) (nI 0) (nI 0) (nI 0) pg pla sou fou) := hD1.weaken (fun _ q _ h => xA_up hSz _ h)
    have hP : va_P (dC, dI) vwCl (mw_ am cm (nI 0) mw mwr mfl mact (nI 1) (-1) (nI 0) mlog mlive had (nI 0) (-1) (nI 0) (nI 0) (nI 0) pg pla sou fou) H1 := hP1
    generalize H1 = H at hP hS ⊢
    generalize locs1 = locs at hS ⊢
    subst q16
    refine lv_if_ne (tgt := 42) hx hb d_M_annul_19 (by decide) (fun c19 => ?_) (fun c19 => ?_)
    ·
      exact absurd c19 (by decide)
    ·
      refine lv_aload_n hx hb d_M_annul_22 rfl (lv_at hl 0 rfl) ?_
      refine lv_iconst (v := nI 2) hx hb d_M_annul_23 (by decide) ?_
      refine lv_aload_n hx hb d_M_annul_24 rfl (lv_at hl 0 rfl) ?_
      refine va_get (D := (dC, dI)) (ci := 5) (v := .int (nI 1)) (C := R_M) (T := F_M) (N := 20) hx hb hts (fun w h => List.mem_cons_of_mem _ (in_M w h)) hown hK hP 0 rfl rfl 5 (by decide) (hts (.fieldLink R_M 23 R_M "on" "Z") (List.mem_cons_of_mem _ t_717)) (fun _ h9 => h9) rfl d_M_annul_25 ?_
      refine lv_if_ne (tgt := 35) hx hb d_M_annul_28 (by decide) (fun c28 => ?_) (fun c28 => ?_)
      ·
        refine lv_iconst (v := nI 0) hx hb d_M_annul_35 (by decide) ?_
        have hSz := hS.1
        refine va_calli (va_runV (C := R_M) (As := [.int (nI 2), .int (nI 0)]) (rest := []) ⟨hx, hb, hml, hown, hts⟩ (c_M_fails_0 l dC dI am cm H.size (nI 0) mw mwr mfl mact (nI 1) (-1) (nI 0) mlog mlive had (nI 0) (-1) (nI 0) (nI 0) (nI 0) pg pla sou fou (nI 2) ) (cwV 2 hts (g_V t_784 t_786 s_22 t_6 t_787) rfl rfl rfl (by decide +kernel) ⟨by decide, by decide⟩) (xP_v hP hK hD 0 rfl rfl) rfl rfl hl.1 rfl (lv_room (Nat.le_of_ble_eq_true rfl)) d_M_annul_36 ⟨Nat.le_refl _, Nat.le_refl _⟩) hS (fun q _ h => xA_up hS.1 q h) (fun q h => xA_up hS.1 q h) (fun r36 u36 t H1 locs1 ht hvm q36 hB hz1 hk1 hS => ?_)
        obtain ⟨hP1, hK1, hD1⟩ := hB
        rw [ht] at hP1
        have hD : va_D (xA 9 am s.heap.size) (mw_ am cm (nI 0) mw mwr mfl mact (nI 1) (-1) (nI 0) mlog mlive had (nI 0) (-1) (nI 0) (nI 0) (nI 0) pg pla sou fou) := hD1.weaken (fun _ q _ h => xA_up hSz _ h)
        have hP : va_P (dC, dI) vwCl (mw_ am cm (nI 0) mw mwr mfl mact (nI 1) (-1) (nI 0) mlog mlive had (nI 0) (-1) (nI 0) (nI 0) (nI 0) pg pla sou fou) H1 := hP1
        generalize H1 = H at hP hS ⊢
        generalize locs1 = locs at hS ⊢
        subst q36
        refine lv_if_eq (tgt := 44) hx hb d_M_annul_39 (by decide) (fun c39 => ?_) (fun c39 => ?_)
        ·
          refine lv_iload_n hx hb d_M_annul_44 rfl (lv_at hl 1 rfl) ?_
          refine lv_iconst (v := nI 1) hx hb d_M_annul_45 (by decide) ?_
          refine lv_icmp_lt (tgt := 74) hx hb d_M_annul_46 (by decide) (fun c46 => ?_) (fun c46 => ?_)
          ·
            refine lv_iconst (v := nI 0) hx hb d_M_annul_74 (by decide) ?_
            exact W.iret (v := nI 0) hx hb hr (fun t ht hW => ⟨⟨nI 0, (), rfl, by first | rfl | trivial | omega, ⟨by rw [ht]; exact hP, va_K.moved hW.alike hK, hD⟩⟩, hS.F ht⟩) hS.2.2 d_M_annul_75
          ·
            refine lv_aload_n hx hb d_M_annul_49 rfl (lv_at hl 0 rfl) ?_
            refine lv_iload_n hx hb d_M_annul_50 rfl (lv_at hl 1 rfl) ?_
            refine vp_callSi (va_runV (C := R_M) (As := [.int tno]) (rest := []) ⟨hx, hb, hml, hown, hts⟩ (c_M_placeOf_f l dC dI am cm (nI 0) mw mwr mfl mact (nI 1) (-1) (nI 0) mlog mlive had (nI 0) (-1) (nI 0) (nI 0) (nI 0) pg pla sou fou tno ) (cwV 1 hts (g_V t_881 t_883 s_42 t_6 t_884) rfl rfl rfl (by decide +kernel) ⟨by decide, by decide⟩) (xR_v hP hK 0 rfl rfl) rfl rfl hl.1 rfl (lv_room (Nat.le_of_ble_eq_true rfl)) d_M_annul_51 ⟨Nat.le_refl _, Nat.le_refl _⟩).run (fun r51 q51 => ?_)
            subst q51
            refine lv_if_lt (tgt := 74) hx hb d_M_annul_54 (by decide) (fun c54 => ?_) (fun c54 => ?_)
            ·
              refine lv_iconst (v := nI 0) hx hb d_M_annul_74 (by decide) ?_
              exact W.iret (v := nI 0) hx hb hr (fun t ht hW => ⟨⟨nI 0, (), rfl, by first | rfl | trivial | omega, ⟨by rw [ht]; exact hP, va_K.moved hW.alike hK, hD⟩⟩, hS.F ht⟩) hS.2.2 d_M_annul_75
            ·
              exact absurd c54 (by decide)
        ·
          exact absurd c39 (by decide)
      ·
        exact absurd c28 (by decide)
  ·
    exact absurd c8 (by decide)
set_option maxHeartbeats 4000000 in
set_option maxRecDepth 100000 in
theorem c_M_annul_bad (l : Launch) (dC : Nat → ClassId) (dI : Nat → Nat → Nat) (am cm : Nat → Nat) (sz : Nat) (th : Int32) (mw mwr mfl mact : Nat → Int32) (on cut mrec : Int32) (mlog mlive had : Nat → Int32) (mser mcur mrd mwt worn : Int32) (pg : Nat → Int32) (pla sou fou : Int32) (tno rea : Int32) (hok : ¬ (nI 0 ≤ rea ∧ rea ≤ nI 3)) : Met l y_M_annul w_M_annul ({ frames := 1, cells := 0, slots := 0, locals := 23 }) (xP (dC, dI) vwCl (mt cm) (mw_ am cm th mw mwr mfl mact (nI 1) (-1) (nI 0) mlog mlive had (nI 0) (-1) (nI 0) (nI 0) (nI 0) pg pla sou fou) sz [.ref (am 0), .int tno, .int rea]) (va_Qi (fun r (u : Unit) => r = nI 0) (fun (u : Unit) (t : State) => xB (dC, dI) vwCl (mt cm) (xA 9 am sz) (mw_ am cm (nI 1) mw mwr mfl mact (nI 1) (-1) (nI 0) mlog mlive had (nI 0) (-1) (nI 0) (nI 0) (nI 0) pg pla sou fou) t) (xA 9 am sz)) 0 0 (xA 9 am sz) := by
  refine Met.ofW (cc := b_M_annul) (maxL := 4) (ret := (some (.int))) (by decide) rfl ?_
  intro P e s m args below meth c0 s₁ B hml hv
  obtain ⟨rfl, hsz, hP, hK, hD0⟩ := hv
  have hx := B.exec
  have hb := B.bytes
  have hr := B.returns
  have hts := atoms_spec (ws := w_M_annul) B.pre
  have hown : s.vm.findClass R_M = some m.cls := findClass_of_methodNamed B.named
  have hlocks := B.notSynchronized
  subst hsz
  have hD := mw_D (sz := s.heap.size) hD0
  have hS : va_S (xA 9 am s.heap.size) s.heap s.heap [] := va_S.rf
  have hA : ∀ q : Nat, s.heap.size ≤ q → (xA 9 am s.heap.size) q := fun q h => Or.inr h
  have hl := lv_entry ([.ref (am 0), .int tno, .int rea]) (n := 4) (Nat.le_of_ble_eq_true rfl)
  rw [lg_entry_eq]
  generalize (lg_sl ([.ref (am 0), .int tno, .int rea]) ++ List.replicate (4 - (lg_sl ([.ref (am 0), .int tno, .int rea])).length) Slot.unset).toArray = ls at hl ⊢
  have hl : lv_has ls 4 [(0, .ref (am 0)), (1, .int tno), (2, .int rea)] := hl
  refine lv_aload_n hx hb d_M_annul_0 rfl (lv_at hl 0 rfl) ?_
  refine lv_iconst (v := nI 1) hx hb d_M_annul_1 (by decide) ?_
  refine lv_iload_n hx hb d_M_annul_2 rfl (lv_at hl 2 rfl) ?_
  refine lv_iconst (v := nI 0) hx hb d_M_annul_3 (by decide) ?_
  refine lv_iconst (v := nI 3) hx hb d_M_annul_4 (by decide) ?_
  refine vp_callSi (va_runS (As := [.int rea, .int (nI 0), .int (nI 3)]) (rest := [.int (nI 1), .ref (am 0)]) ⟨hx, hb, hml, hown, hts⟩ (c_M_isIn l dC dI rea (nI 0) (nI 3) ) (cwS 3 hts (g_S t_781 t_782 t_6 t_783) rfl rfl rfl (by decide +kernel) ⟨by decide, by decide⟩) (xR_s (va_P.sub hP [] rfl) (hK.sub [] rfl)) rfl rfl hl.1 rfl (lv_room (Nat.le_of_ble_eq_true rfl)) d_M_annul_5 ⟨Nat.le_refl _, Nat.le_refl _⟩).run (fun r5 q5 => ?_)
  obtain ⟨rfl, -⟩ := q5.resolve_left (fun z => (hok) z.2)
  refine lv_if_ne (tgt := 15) hx hb d_M_annul_8 (by decide) (fun c8 => ?_) (fun c8 => ?_)
  ·
    exact absurd c8 (by decide)
  ·
    refine lv_iconst (v := nI 1) hx hb d_M_annul_11 (by decide) ?_
    refine lv_goto (tgt := 16) hx hb d_M_annul_12 (by decide) ?_
    have hSz := hS.1
    refine va_calli (va_runV (C := R_M) (As := [.int (nI 1), .int (nI 1)]) (rest := []) ⟨hx, hb, hml, hown, hts⟩ (c_M_fails_1 l dC dI am cm s.heap.size th mw mwr mfl mact (nI 1) (-1) (nI 0) mlog mlive had (nI 0) (-1) (nI 0) (nI 0) (nI 0) pg pla sou fou (nI 1) ) (cwV 2 hts (g_V t_784 t_786 s_22 t_6 t_787) rfl rfl rfl (by decide +kernel) ⟨by decide, by decide⟩) (xP_v hP hK hD 0 rfl rfl) rfl rfl hl.1 rfl (lv_room (Nat.le_of_ble_eq_true rfl)) d_M_annul_16 ⟨Nat.le_refl _, Nat.le_refl _⟩) hS (fun q _ h => xA_up hS.1 q h) (fun q h => xA_up hS.1 q h) (fun r16 u16 t H1 locs1 ht hvm q16 hB hz1 hk1 hS => ?_)
    obtain ⟨hP1, hK1, hD1⟩ := hB
    rw [ht] at hP1
    have hD : va_D (xA 9 am s.heap.size) (mw_ am cm (nI 1) mw mwr mfl mact (nI 1) (-1) (nI 0) mlog mlive had (nI 0) (-1) (nI 0) (nI 0) (nI 0) pg pla sou fou) := hD1.weaken (fun _ q _ h => xA_up hSz _ h)
    have hP : va_P (dC, dI) vwCl (mw_ am cm (nI 1) mw mwr mfl mact (nI 1) (-1) (nI 0) mlog mlive had (nI 0) (-1) (nI 0) (nI 0) (nI 0) pg pla sou fou) H1 := hP1
    generalize H1 = H at hP hS ⊢
    generalize locs1 = locs at hS ⊢
    subst q16
    refine lv_if_ne (tgt := 42) hx hb d_M_annul_19 (by decide) (fun c19 => ?_) (fun c19 => ?_)
    ·
      refine lv_iconst (v := nI 0) hx hb d_M_annul_42 (by decide) ?_
      exact W.iret (v := nI 0) hx hb hr (fun t ht hW => ⟨⟨nI 0, (), rfl, by first | rfl | trivial | omega, ⟨by rw [ht]; exact hP, va_K.moved hW.alike hK, hD⟩⟩, hS.F ht⟩) hS.2.2 d_M_annul_43
    ·
      exact absurd c19 (by decide)
set_option maxHeartbeats 4000000 in
set_option maxRecDepth 100000 in
theorem c_M_sync_f (l : Launch) (dC : Nat → ClassId) (dI : Nat → Nat → Nat) (am cm : Nat → Nat) (sz : Nat) (th : Int32) (mw mwr mfl mact : Nat → Int32) (on cut mrec : Int32) (mlog mlive had : Nat → Int32) (mser mcur mrd mwt worn : Int32) (pg : Nat → Int32) (pla sou fou : Int32)  (hmv : ∀ i, i < 16 → mlive i = -1) : Met l y_M_sync w_M_sync ({ frames := 1, cells := 0, slots := 0, locals := 22 }) (xP (dC, dI) vwCl (mt cm) (mw_ am cm th mw mwr mfl mact (nI 1) (-1) (nI 0) mlog mlive had (nI 0) (-1) (nI 0) (nI 0) (nI 0) pg pla sou fou) sz [.ref (am 0)]) (va_Qi (fun r (u : Unit) => r = nI 1) (fun (u : Unit) (t : State) => xB (dC, dI) vwCl (mt cm) (xA 9 am sz) (mw_ am cm (nI 0) mw mwr mfl mact (nI 1) (-1) (nI 0) mlog mlive had (nI 0) (-1) (nI 0) (nI 0) (nI 0) pg pla sou fou) t) (xA 9 am sz)) 0 0 (xA 9 am sz) := by
  refine Met.ofW (cc := b_M_sync) (maxL := 3) (ret := (some (.int))) (by decide) rfl ?_
  intro P e s m args below meth c0 s₁ B hml hv
  obtain ⟨rfl, hsz, hP, hK, hD0⟩ := hv
  have hx := B.exec
  have hb := B.bytes
  have hr := B.returns
  have hts := atoms_spec (ws := w_M_sync) B.pre
  have hown : s.vm.findClass R_M = some m.cls := findClass_of_methodNamed B.named
  have hlocks := B.notSynchronized
  subst hsz
  have hD := mw_D (sz := s.heap.size) hD0
  have hS : va_S (xA 9 am s.heap.size) s.heap s.heap [] := va_S.rf
  have hA : ∀ q : Nat, s.heap.size ≤ q → (xA 9 am s.heap.size) q := fun q h => Or.inr h
  have hl := lv_entry ([.ref (am 0)]) (n := 3) (Nat.le_of_ble_eq_true rfl)
  rw [lg_entry_eq]
  generalize (lg_sl ([.ref (am 0)]) ++ List.replicate (3 - (lg_sl ([.ref (am 0)])).length) Slot.unset).toArray = ls at hl ⊢
  have hl : lv_has ls 3 [(0, .ref (am 0))] := hl
  refine lv_aload_n hx hb d_M_sync_0 rfl (lv_at hl 0 rfl) ?_
  refine lv_iconst (v := nI 1) hx hb d_M_sync_1 (by decide) ?_
  refine lv_aload_n hx hb d_M_sync_2 rfl (lv_at hl 0 rfl) ?_
  refine va_get (D := (dC, dI)) (ci := 5) (v := .int (nI 1)) (C := R_M) (T := F_M) (N := 20) hx hb hts (fun w h => List.mem_cons_of_mem _ (in_M w h)) hown hK hP 0 rfl rfl 5 (by decide) (hts (.fieldLink R_M 23 R_M "on" "Z") (List.mem_cons_of_mem _ t_717)) (fun _ h9 => h9) rfl d_M_sync_3 ?_
  refine lv_if_ne (tgt := 13) hx hb d_M_sync_6 (by decide) (fun c6 => ?_) (fun c6 => ?_)
  ·
    refine lv_iconst (v := nI 0) hx hb d_M_sync_13 (by decide) ?_
    have hSz := hS.1
    refine va_calli (va_runV (C := R_M) (As := [.int (nI 1), .int (nI 0)]) (rest := []) ⟨hx, hb, hml, hown, hts⟩ (c_M_fails_0 l dC dI am cm s.heap.size th mw mwr mfl mact (nI 1) (-1) (nI 0) mlog mlive had (nI 0) (-1) (nI 0) (nI 0) (nI 0) pg pla sou fou (nI 1) ) (cwV 2 hts (g_V t_784 t_786 s_22 t_6 t_787) rfl rfl rfl (by decide +kernel) ⟨by decide, by decide⟩) (xP_v hP hK hD 0 rfl rfl) rfl rfl hl.1 rfl (lv_room (Nat.le_of_ble_eq_true rfl)) d_M_sync_14 ⟨Nat.le_refl _, Nat.le_refl _⟩) hS (fun q _ h => xA_up hS.1 q h) (fun q h => xA_up hS.1 q h) (fun r14 u14 t H1 locs1 ht hvm q14 hB hz1 hk1 hS => ?_)
    obtain ⟨hP1, hK1, hD1⟩ := hB
    rw [ht] at hP1
    have hD : va_D (xA 9 am s.heap.size) (mw_ am cm (nI 0) mw mwr mfl mact (nI 1) (-1) (nI 0) mlog mlive had (nI 0) (-1) (nI 0) (nI 0) (nI 0) pg pla sou fou) := hD1.weaken (fun _ q _ h => xA_up hSz _ h)
    have hP : va_P (dC, dI) vwCl (mw_ am cm (nI 0) mw mwr mfl mact (nI 1) (-1) (nI 0) mlog mlive had (nI 0) (-1) (nI 0) (nI 0) (nI 0) pg pla sou fou) H1 := hP1
    generalize H1 = H at hP hS ⊢
    generalize locs1 = locs at hS ⊢
    subst q14
    refine lv_if_eq (tgt := 22) hx hb d_M_sync_17 (by decide) (fun c17 => ?_) (fun c17 => ?_)
    ·
      refine lv_aload_n hx hb d_M_sync_22 rfl (lv_at hl 0 rfl) ?_
      refine vp_callSi (va_runV (C := R_M) (As := []) (rest := []) ⟨hx, hb, hml, hown, hts⟩ (c_M_durable_f l dC dI am cm (nI 0) mw mwr mfl mact (nI 1) (-1) (nI 0) mlog mlive had (nI 0) (-1) (nI 0) (nI 0) (nI 0) pg pla sou fou  (hmv)) (cwV 0 hts (g_V t_894 t_896 s_44 t_6 t_897) rfl rfl rfl (by decide +kernel) ⟨by decide, by decide⟩) (xR_v hP hK 0 rfl rfl) rfl rfl hl.1 rfl (lv_room (Nat.le_of_ble_eq_true rfl)) d_M_sync_23 ⟨Nat.le_refl _, Nat.le_refl _⟩).run (fun r23 q23 => ?_)
      subst q23
      refine lv_aload_n hx hb d_M_sync_26 rfl (lv_at hl 0 rfl) ?_
      refine va_get (D := (dC, dI)) (ci := 5) (v := .int (nI 0)) (C := R_M) (T := F_M) (N := 20) hx hb hts (fun w h => List.mem_cons_of_mem _ (in_M w h)) hown hK hP 0 rfl rfl 7 (by decide) (hts (.fieldLink R_M 52 R_M "records" "I") (List.mem_cons_of_mem _ t_719)) (fun _ h9 => h9) rfl d_M_sync_27 ?_
      refine lv_icmp_ne (tgt := 35) hx hb d_M_sync_30 (by decide) (fun c30 => ?_) (fun c30 => ?_)
      ·
        exact absurd c30 (by decide)
      ·
        refine lv_iconst (v := nI 1) hx hb d_M_sync_33 (by decide) ?_
        exact W.iret (v := nI 1) hx hb hr (fun t ht hW => ⟨⟨nI 1, (), rfl, by first | rfl | trivial | omega, ⟨by rw [ht]; exact hP, va_K.moved hW.alike hK, hD⟩⟩, hS.F ht⟩) hS.2.2 d_M_sync_34
    ·
      exact absurd c17 (by decide)
  ·
    exact absurd c6 (by decide)
set_option maxHeartbeats 4000000 in
set_option maxRecDepth 100000 in
theorem c_M_ticket_f (l : Launch) (dC : Nat → ClassId) (dI : Nat → Nat → Nat) (am cm : Nat → Nat) (sz : Nat) (th : Int32) (mw mwr mfl mact : Nat → Int32) (on cut mrec : Int32) (mlog mlive had : Nat → Int32) (mser mcur mrd mwt worn : Int32) (pg : Nat → Int32) (pla sou fou : Int32) (n what : Int32) : Met l y_M_ticket w_M_ticket ({ frames := 1, cells := 0, slots := 0, locals := 23 }) (xP (dC, dI) vwCl (mt cm) (mw_ am cm th mw mwr mfl mact (nI 1) (-1) (nI 0) mlog mlive had (nI 0) (-1) (nI 0) (nI 0) (nI 0) pg pla sou fou) sz [.ref (am 0), .int n, .int what]) (va_Qi (fun r (u : Unit) => r = nI 0) (fun (u : Unit) (t : State) => xB (dC, dI) vwCl (mt cm) (xA 9 am sz) (mw_ am cm (nI 2) mw mwr mfl mact (nI 1) (-1) (nI 0) mlog mlive had (nI 0) (-1) (nI 0) (nI 0) (nI 0) pg pla sou fou) t) (xA 9 am sz)) 0 0 (xA 9 am sz) := by
  refine Met.ofW (cc := b_M_ticket) (maxL := 4) (ret := (some (.int))) (by decide) rfl ?_
  intro P e s m args below meth c0 s₁ B hml hv
  obtain ⟨rfl, hsz, hP, hK, hD0⟩ := hv
  have hx := B.exec
  have hb := B.bytes
  have hr := B.returns
  have hts := atoms_spec (ws := w_M_ticket) B.pre
  have hown : s.vm.findClass R_M = some m.cls := findClass_of_methodNamed B.named
  have hlocks := B.notSynchronized
  subst hsz
  have hD := mw_D (sz := s.heap.size) hD0
  have hS : va_S (xA 9 am s.heap.size) s.heap s.heap [] := va_S.rf
  have hA : ∀ q : Nat, s.heap.size ≤ q → (xA 9 am s.heap.size) q := fun q h => Or.inr h
  have hl := lv_entry ([.ref (am 0), .int n, .int what]) (n := 4) (Nat.le_of_ble_eq_true rfl)
  rw [lg_entry_eq]
  generalize (lg_sl ([.ref (am 0), .int n, .int what]) ++ List.replicate (4 - (lg_sl ([.ref (am 0), .int n, .int what])).length) Slot.unset).toArray = ls at hl ⊢
  have hl : lv_has ls 4 [(0, .ref (am 0)), (1, .int n), (2, .int what)] := hl
  refine lv_aload_n hx hb d_M_ticket_0 rfl (lv_at hl 0 rfl) ?_
  refine lv_iconst (v := nI 1) hx hb d_M_ticket_1 (by decide) ?_
  refine lv_aload_n hx hb d_M_ticket_2 rfl (lv_at hl 0 rfl) ?_
  refine va_get (D := (dC, dI)) (ci := 5) (v := .int (nI 1)) (C := R_M) (T := F_M) (N := 20) hx hb hts (fun w h => List.mem_cons_of_mem _ (in_M w h)) hown hK hP 0 rfl rfl 5 (by decide) (hts (.fieldLink R_M 23 R_M "on" "Z") (List.mem_cons_of_mem _ t_717)) (fun _ h9 => h9) rfl d_M_ticket_3 ?_
  refine lv_if_ne (tgt := 13) hx hb d_M_ticket_6 (by decide) (fun c6 => ?_) (fun c6 => ?_)
  ·
    refine lv_iconst (v := nI 0) hx hb d_M_ticket_13 (by decide) ?_
    have hSz := hS.1
    refine va_calli (va_runV (C := R_M) (As := [.int (nI 1), .int (nI 0)]) (rest := []) ⟨hx, hb, hml, hown, hts⟩ (c_M_fails_0 l dC dI am cm s.heap.size th mw mwr mfl mact (nI 1) (-1) (nI 0) mlog mlive had (nI 0) (-1) (nI 0) (nI 0) (nI 0) pg pla sou fou (nI 1) ) (cwV 2 hts (g_V t_784 t_786 s_22 t_6 t_787) rfl rfl rfl (by decide +kernel) ⟨by decide, by decide⟩) (xP_v hP hK hD 0 rfl rfl) rfl rfl hl.1 rfl (lv_room (Nat.le_of_ble_eq_true rfl)) d_M_ticket_14 ⟨Nat.le_refl _, Nat.le_refl _⟩) hS (fun q _ h => xA_up hS.1 q h) (fun q h => xA_up hS.1 q h) (fun r14 u14 t H1 locs1 ht hvm q14 hB hz1 hk1 hS => ?_)
    obtain ⟨hP1, hK1, hD1⟩ := hB
    rw [ht] at hP1
    have hD : va_D (xA 9 am s.heap.size) (mw_ am cm (nI 0) mw mwr mfl mact (nI 1) (-1) (nI 0) mlog mlive had (nI 0) (-1) (nI 0) (nI 0) (nI 0) pg pla sou fou) := hD1.weaken (fun _ q _ h => xA_up hSz _ h)
    have hP : va_P (dC, dI) vwCl (mw_ am cm (nI 0) mw mwr mfl mact (nI 1) (-1) (nI 0) mlog mlive had (nI 0) (-1) (nI 0) (nI 0) (nI 0) pg pla sou fou) H1 := hP1
    generalize H1 = H at hP hS ⊢
    generalize locs1 = locs at hS ⊢
    subst q14
    refine lv_if_eq (tgt := 22) hx hb d_M_ticket_17 (by decide) (fun c17 => ?_) (fun c17 => ?_)
    ·
      refine lv_iload_n hx hb d_M_ticket_22 rfl (lv_at hl 1 rfl) ?_
      refine lv_iconst (v := nI 1) hx hb d_M_ticket_23 (by decide) ?_
      refine lv_icmp_ge (tgt := 31) hx hb d_M_ticket_24 (by decide) (fun c24 => ?_) (fun c24 => ?_)
      ·
        refine lv_aload_n hx hb d_M_ticket_31 rfl (lv_at hl 0 rfl) ?_
        refine lv_iload_n hx hb d_M_ticket_32 rfl (lv_at hl 1 rfl) ?_
        refine vp_callSi (va_runV (C := R_M) (As := [.int n]) (rest := []) ⟨hx, hb, hml, hown, hts⟩ (c_M_placeOf_f l dC dI am cm (nI 0) mw mwr mfl mact (nI 1) (-1) (nI 0) mlog mlive had (nI 0) (-1) (nI 0) (nI 0) (nI 0) pg pla sou fou n ) (cwV 1 hts (g_V t_881 t_883 s_42 t_6 t_884) rfl rfl rfl (by decide +kernel) ⟨by decide, by decide⟩) (xR_v hP hK 0 rfl rfl) rfl rfl hl.1 rfl (lv_room (Nat.le_of_ble_eq_true rfl)) d_M_ticket_33 ⟨Nat.le_refl _, Nat.le_refl _⟩).run (fun r33 q33 => ?_)
        subst q33
        refine lv_istore_n hx hb d_M_ticket_36 rfl hl (by decide) rfl (fun ls hl => ?_)
        have hl : lv_has ls 4 [(3, .int (-1)), (0, .ref (am 0)), (1, .int n), (2, .int what)] := hl
        refine lv_aload_n hx hb d_M_ticket_37 rfl (lv_at hl 1 rfl) ?_
        refine lv_iconst (v := nI 2) hx hb d_M_ticket_38 (by decide) ?_
        refine lv_iload_n hx hb d_M_ticket_39 rfl (lv_at hl 0 rfl) ?_
        refine lv_if_lt (tgt := 53) hx hb d_M_ticket_40 (by decide) (fun c40 => ?_) (fun c40 => ?_)
        ·
          refine lv_iconst (v := nI 1) hx hb d_M_ticket_53 (by decide) ?_
          refine lv_goto (tgt := 58) hx hb d_M_ticket_54 (by decide) ?_
          have hSz := hS.1
          refine va_calli (va_runV (C := R_M) (As := [.int (nI 2), .int (nI 1)]) (rest := []) ⟨hx, hb, hml, hown, hts⟩ (c_M_fails_1 l dC dI am cm H.size (nI 0) mw mwr mfl mact (nI 1) (-1) (nI 0) mlog mlive had (nI 0) (-1) (nI 0) (nI 0) (nI 0) pg pla sou fou (nI 2) ) (cwV 2 hts (g_V t_784 t_786 s_22 t_6 t_787) rfl rfl rfl (by decide +kernel) ⟨by decide, by decide⟩) (xP_v hP hK hD 0 rfl rfl) rfl rfl hl.1 rfl (lv_room (Nat.le_of_ble_eq_true rfl)) d_M_ticket_58 ⟨Nat.le_refl _, Nat.le_refl _⟩) hS (fun q _ h => xA_up hS.1 q h) (fun q h => xA_up hS.1 q h) (fun r58 u58 t H1 locs1 ht hvm q58 hB hz1 hk1 hS => ?_)
          obtain ⟨hP1, hK1, hD1⟩ := hB
          rw [ht] at hP1
          have hD : va_D (xA 9 am s.heap.size) (mw_ am cm (nI 2) mw mwr mfl mact (nI 1) (-1) (nI 0) mlog mlive had (nI 0) (-1) (nI 0) (nI 0) (nI 0) pg pla sou fou) := hD1.weaken (fun _ q _ h => xA_up hSz _ h)
          have hP : va_P (dC, dI) vwCl (mw_ am cm (nI 2) mw mwr mfl mact (nI 1) (-1) (nI 0) mlog mlive had (nI 0) (-1) (nI 0) (nI 0) (nI 0) pg pla sou fou) H1 := hP1
          generalize H1 = H at hP hS ⊢
          generalize locs1 = locs at hS ⊢
          subst q58
          refine lv_if_eq (tgt := 66) hx hb d_M_ticket_61 (by decide) (fun c61 => ?_) (fun c61 => ?_)
          ·
            exact absurd c61 (by decide)
          ·
            refine lv_iconst (v := nI 0) hx hb d_M_ticket_64 (by decide) ?_
            exact W.iret (v := nI 0) hx hb hr (fun t ht hW => ⟨⟨nI 0, (), rfl, by first | rfl | trivial | omega, ⟨by rw [ht]; exact hP, va_K.moved hW.alike hK, hD⟩⟩, hS.F ht⟩) hS.2.2 d_M_ticket_65
        ·
          exact absurd c40 (by decide)
      ·
        refine lv_iconst (v := (-1)) hx hb d_M_ticket_27 (by decide) ?_
        refine lv_goto (tgt := 36) hx hb d_M_ticket_28 (by decide) ?_
        refine lv_istore_n hx hb d_M_ticket_36 rfl hl (by decide) rfl (fun ls hl => ?_)
        have hl : lv_has ls 4 [(3, .int (-1)), (0, .ref (am 0)), (1, .int n), (2, .int what)] := hl
        refine lv_aload_n hx hb d_M_ticket_37 rfl (lv_at hl 1 rfl) ?_
        refine lv_iconst (v := nI 2) hx hb d_M_ticket_38 (by decide) ?_
        refine lv_iload_n hx hb d_M_ticket_39 rfl (lv_at hl 0 rfl) ?_
        refine lv_if_lt (tgt := 53) hx hb d_M_ticket_40 (by decide) (fun c40 => ?_) (fun c40 => ?_)
        ·
          refine lv_iconst (v := nI 1) hx hb d_M_ticket_53 (by decide) ?_
          refine lv_goto (tgt := 58) hx hb d_M_ticket_54 (by decide) ?_
          have hSz := hS.1
          refine va_calli (va_runV (C := R_M) (As := [.int (nI 2), .int (nI 1)]) (rest := []) ⟨hx, hb, hml, hown, hts⟩ (c_M_fails_1 l dC dI am cm H.size (nI 0) mw mwr mfl mact (nI 1) (-1) (nI 0) mlog mlive had (nI 0) (-1) (nI 0) (nI 0) (nI 0) pg pla sou fou (nI 2) ) (cwV 2 hts (g_V t_784 t_786 s_22 t_6 t_787) rfl rfl rfl (by decide +kernel) ⟨by decide, by decide⟩) (xP_v hP hK hD 0 rfl rfl) rfl rfl hl.1 rfl (lv_room (Nat.le_of_ble_eq_true rfl)) d_M_ticket_58 ⟨Nat.le_refl _, Nat.le_refl _⟩) hS (fun q _ h => xA_up hS.1 q h) (fun q h => xA_up hS.1 q h) (fun r58 u58 t H1 locs1 ht hvm q58 hB hz1 hk1 hS => ?_)
          obtain ⟨hP1, hK1, hD1⟩ := hB
          rw [ht] at hP1
          have hD : va_D (xA 9 am s.heap.size) (mw_ am cm (nI 2) mw mwr mfl mact (nI 1) (-1) (nI 0) mlog mlive had (nI 0) (-1) (nI 0) (nI 0) (nI 0) pg pla sou fou) := hD1.weaken (fun _ q _ h => xA_up hSz _ h)
          have hP : va_P (dC, dI) vwCl (mw_ am cm (nI 2) mw mwr mfl mact (nI 1) (-1) (nI 0) mlog mlive had (nI 0) (-1) (nI 0) (nI 0) (nI 0) pg pla sou fou) H1 := hP1
          generalize H1 = H at hP hS ⊢
          generalize locs1 = locs at hS ⊢
          subst q58
          refine lv_if_eq (tgt := 66) hx hb d_M_ticket_61 (by decide) (fun c61 => ?_) (fun c61 => ?_)
          ·
            exact absurd c61 (by decide)
          ·
            refine lv_iconst (v := nI 0) hx hb d_M_ticket_64 (by decide) ?_
            exact W.iret (v := nI 0) hx hb hr (fun t ht hW => ⟨⟨nI 0, (), rfl, by first | rfl | trivial | omega, ⟨by rw [ht]; exact hP, va_K.moved hW.alike hK, hD⟩⟩, hS.F ht⟩) hS.2.2 d_M_ticket_65
        ·
          exact absurd c40 (by decide)
    ·
      exact absurd c17 (by decide)
  ·
    exact absurd c6 (by decide)
set_option maxHeartbeats 4000000 in
set_option maxRecDepth 100000 in
theorem c_M_dayTotal_f (l : Launch) (dC : Nat → ClassId) (dI : Nat → Nat → Nat) (am cm : Nat → Nat) (sz : Nat) (th : Int32) (mw mwr mfl mact : Nat → Int32) (on cut mrec : Int32) (mlog mlive had : Nat → Int32) (mser mcur mrd mwt worn : Int32) (pg : Nat → Int32) (pla sou fou : Int32) (da pr : Int32) : Met l y_M_dayTotal w_M_dayTotal ({ frames := 1, cells := 0, slots := 0, locals := 22 }) (xP (dC, dI) vwCl (mt cm) (mw_ am cm th mw mwr mfl mact (nI 1) (-1) (nI 0) mlog mlive had (nI 0) (-1) (nI 0) (nI 0) (nI 0) pg pla sou fou) sz [.ref (am 0), .int da, .int pr]) (va_Ql (fun r (u : Unit) => r = 0) (fun (u : Unit) (t : State) => xB (dC, dI) vwCl (mt cm) (xA 9 am sz) (mw_ am cm (nI 0) mw mwr mfl mact (nI 1) (-1) (nI 0) mlog mlive had (nI 0) (-1) (nI 0) (nI 0) (nI 0) pg pla sou fou) t) (xA 9 am sz)) 0 0 (xA 9 am sz) := by
  refine Met.ofW (cc := b_M_dayTotal) (maxL := 7) (ret := (some (.long))) (by decide) rfl ?_
  intro P e s m args below meth c0 s₁ B hml hv
  obtain ⟨rfl, hsz, hP, hK, hD0⟩ := hv
  have hx := B.exec
  have hb := B.bytes
  have hr := B.returns
  have hts := atoms_spec (ws := w_M_dayTotal) B.pre
  have hown : s.vm.findClass R_M = some m.cls := findClass_of_methodNamed B.named
  have hlocks := B.notSynchronized
  subst hsz
  have hD := mw_D (sz := s.heap.size) hD0
  have hS : va_S (xA 9 am s.heap.size) s.heap s.heap [] := va_S.rf
  have hA : ∀ q : Nat, s.heap.size ≤ q → (xA 9 am s.heap.size) q := fun q h => Or.inr h
  have hl := lv_entry ([.ref (am 0), .int da, .int pr]) (n := 7) (Nat.le_of_ble_eq_true rfl)
  rw [lg_entry_eq]
  generalize (lg_sl ([.ref (am 0), .int da, .int pr]) ++ List.replicate (7 - (lg_sl ([.ref (am 0), .int da, .int pr])).length) Slot.unset).toArray = ls at hl ⊢
  have hl : lv_has ls 7 [(0, .ref (am 0)), (1, .int da), (2, .int pr)] := hl
  refine lv_aload_n hx hb d_M_dayTotal_0 rfl (lv_at hl 0 rfl) ?_
  refine lv_iconst (v := nI 1) hx hb d_M_dayTotal_1 (by decide) ?_
  refine lv_aload_n hx hb d_M_dayTotal_2 rfl (lv_at hl 0 rfl) ?_
  refine va_get (D := (dC, dI)) (ci := 5) (v := .int (nI 1)) (C := R_M) (T := F_M) (N := 20) hx hb hts (fun w h => List.mem_cons_of_mem _ (in_M w h)) hown hK hP 0 rfl rfl 5 (by decide) (hts (.fieldLink R_M 23 R_M "on" "Z") (List.mem_cons_of_mem _ t_717)) (fun _ h9 => h9) rfl d_M_dayTotal_3 ?_
  refine lv_if_ne (tgt := 13) hx hb d_M_dayTotal_6 (by decide) (fun c6 => ?_) (fun c6 => ?_)
  ·
    refine lv_iconst (v := nI 0) hx hb d_M_dayTotal_13 (by decide) ?_
    have hSz := hS.1
    refine va_calli (va_runV (C := R_M) (As := [.int (nI 1), .int (nI 0)]) (rest := []) ⟨hx, hb, hml, hown, hts⟩ (c_M_fails_0 l dC dI am cm s.heap.size th mw mwr mfl mact (nI 1) (-1) (nI 0) mlog mlive had (nI 0) (-1) (nI 0) (nI 0) (nI 0) pg pla sou fou (nI 1) ) (cwV 2 hts (g_V t_784 t_786 s_22 t_6 t_787) rfl rfl rfl (by decide +kernel) ⟨by decide, by decide⟩) (xP_v hP hK hD 0 rfl rfl) rfl rfl hl.1 rfl (lv_room (Nat.le_of_ble_eq_true rfl)) d_M_dayTotal_14 ⟨Nat.le_refl _, Nat.le_refl _⟩) hS (fun q _ h => xA_up hS.1 q h) (fun q h => xA_up hS.1 q h) (fun r14 u14 t H1 locs1 ht hvm q14 hB hz1 hk1 hS => ?_)
    obtain ⟨hP1, hK1, hD1⟩ := hB
    rw [ht] at hP1
    have hD : va_D (xA 9 am s.heap.size) (mw_ am cm (nI 0) mw mwr mfl mact (nI 1) (-1) (nI 0) mlog mlive had (nI 0) (-1) (nI 0) (nI 0) (nI 0) pg pla sou fou) := hD1.weaken (fun _ q _ h => xA_up hSz _ h)
    have hP : va_P (dC, dI) vwCl (mw_ am cm (nI 0) mw mwr mfl mact (nI 1) (-1) (nI 0) mlog mlive had (nI 0) (-1) (nI 0) (nI 0) (nI 0) pg pla sou fou) H1 := hP1
    generalize H1 = H at hP hS ⊢
    generalize locs1 = locs at hS ⊢
    subst q14
    refine lv_if_eq (tgt := 22) hx hb d_M_dayTotal_17 (by decide) (fun c17 => ?_) (fun c17 => ?_)
    ·
      refine lv_lconst (v := 0) hx hb d_M_dayTotal_22 (by decide) ?_
      refine lv_lstore_n hx hb d_M_dayTotal_23 rfl hl (by decide) rfl (fun ls hl => ?_)
      have hl : lv_has ls 7 [(3, .long 0), (0, .ref (am 0)), (1, .int da), (2, .int pr)] := hl
      refine lv_iconst (v := nI 1) hx hb d_M_dayTotal_24 (by decide) ?_
      refine lv_istore hx hb d_M_dayTotal_25 hl (by decide) rfl (fun ls hl => ?_)
      have hl : lv_has ls 7 [(5, .int (nI 1)), (3, .long 0), (0, .ref (am 0)), (1, .int da), (2, .int pr)] := hl
      refine lv_iload hx hb d_M_dayTotal_27 (lv_at hl 0 rfl) ?_
      refine lv_aload_n hx hb d_M_dayTotal_29 rfl (lv_at hl 2 rfl) ?_
      refine vp_callSi (va_runV (C := R_M) (As := []) (rest := [.int (nI 1)]) ⟨hx, hb, hml, hown, hts⟩ (c_M_tickets_f l dC dI am cm (nI 0) mw mwr mfl mact (nI 1) (-1) (nI 0) mlog mlive had (nI 0) (-1) (nI 0) (nI 0) (nI 0) pg pla sou fou  ) (cwV 0 hts (g_V t_865 t_867 s_39 t_6 t_868) rfl rfl rfl (by decide +kernel) ⟨by decide, by decide⟩) (xR_v hP hK 0 rfl rfl) rfl rfl hl.1 rfl (lv_room (Nat.le_of_ble_eq_true rfl)) d_M_dayTotal_30 ⟨Nat.le_refl _, Nat.le_refl _⟩).run (fun r30 q30 => ?_)
      subst q30
      refine lv_icmp_gt (tgt := 101) hx hb d_M_dayTotal_33 (by decide) (fun c33 => ?_) (fun c33 => ?_)
      ·
        refine lv_lload_n hx hb d_M_dayTotal_101 rfl (lv_at hl 1 rfl) ?_
        exact W.lret (v := 0) hx hb hr (fun t ht hW => ⟨⟨0, (), rfl, by first | rfl | trivial | omega, ⟨by rw [ht]; exact hP, va_K.moved hW.alike hK, hD⟩⟩, hS.F ht⟩) hS.2.2 d_M_dayTotal_102
      ·
        exact absurd c33 (by decide)
    ·
      exact absurd c17 (by decide)
  ·
    exact absurd c6 (by decide)
set_option maxHeartbeats 4000000 in
set_option maxRecDepth 100000 in
theorem c_M_rangeTotal_f (l : Launch) (dC : Nat → ClassId) (dI : Nat → Nat → Nat) (am cm : Nat → Nat) (sz : Nat) (th : Int32) (mw mwr mfl mact : Nat → Int32) (on cut mrec : Int32) (mlog mlive had : Nat → Int32) (mser mcur mrd mwt worn : Int32) (pg : Nat → Int32) (pla sou fou : Int32) (fr to : Int32) : Met l y_M_rangeTotal w_M_rangeTotal ({ frames := 1, cells := 0, slots := 0, locals := 22 }) (xP (dC, dI) vwCl (mt cm) (mw_ am cm th mw mwr mfl mact (nI 1) (-1) (nI 0) mlog mlive had (nI 0) (-1) (nI 0) (nI 0) (nI 0) pg pla sou fou) sz [.ref (am 0), .int fr, .int to]) (va_Ql (fun r (u : Unit) => r = 0) (fun (u : Unit) (t : State) => xB (dC, dI) vwCl (mt cm) (xA 9 am sz) (mw_ am cm (nI 0) mw mwr mfl mact (nI 1) (-1) (nI 0) mlog mlive had (nI 0) (-1) (nI 0) (nI 0) (nI 0) pg pla sou fou) t) (xA 9 am sz)) 0 0 (xA 9 am sz) := by
  refine Met.ofW (cc := b_M_rangeTotal) (maxL := 6) (ret := (some (.long))) (by decide) rfl ?_
  intro P e s m args below meth c0 s₁ B hml hv
  obtain ⟨rfl, hsz, hP, hK, hD0⟩ := hv
  have hx := B.exec
  have hb := B.bytes
  have hr := B.returns
  have hts := atoms_spec (ws := w_M_rangeTotal) B.pre
  have hown : s.vm.findClass R_M = some m.cls := findClass_of_methodNamed B.named
  have hlocks := B.notSynchronized
  subst hsz
  have hD := mw_D (sz := s.heap.size) hD0
  have hS : va_S (xA 9 am s.heap.size) s.heap s.heap [] := va_S.rf
  have hA : ∀ q : Nat, s.heap.size ≤ q → (xA 9 am s.heap.size) q := fun q h => Or.inr h
  have hl := lv_entry ([.ref (am 0), .int fr, .int to]) (n := 6) (Nat.le_of_ble_eq_true rfl)
  rw [lg_entry_eq]
  generalize (lg_sl ([.ref (am 0), .int fr, .int to]) ++ List.replicate (6 - (lg_sl ([.ref (am 0), .int fr, .int to])).length) Slot.unset).toArray = ls at hl ⊢
  have hl : lv_has ls 6 [(0, .ref (am 0)), (1, .int fr), (2, .int to)] := hl
  refine lv_aload_n hx hb d_M_rangeTotal_0 rfl (lv_at hl 0 rfl) ?_
  refine lv_iconst (v := nI 1) hx hb d_M_rangeTotal_1 (by decide) ?_
  refine lv_aload_n hx hb d_M_rangeTotal_2 rfl (lv_at hl 0 rfl) ?_
  refine va_get (D := (dC, dI)) (ci := 5) (v := .int (nI 1)) (C := R_M) (T := F_M) (N := 20) hx hb hts (fun w h => List.mem_cons_of_mem _ (in_M w h)) hown hK hP 0 rfl rfl 5 (by decide) (hts (.fieldLink R_M 23 R_M "on" "Z") (List.mem_cons_of_mem _ t_717)) (fun _ h9 => h9) rfl d_M_rangeTotal_3 ?_
  refine lv_if_ne (tgt := 13) hx hb d_M_rangeTotal_6 (by decide) (fun c6 => ?_) (fun c6 => ?_)
  ·
    refine lv_iconst (v := nI 0) hx hb d_M_rangeTotal_13 (by decide) ?_
    have hSz := hS.1
    refine va_calli (va_runV (C := R_M) (As := [.int (nI 1), .int (nI 0)]) (rest := []) ⟨hx, hb, hml, hown, hts⟩ (c_M_fails_0 l dC dI am cm s.heap.size th mw mwr mfl mact (nI 1) (-1) (nI 0) mlog mlive had (nI 0) (-1) (nI 0) (nI 0) (nI 0) pg pla sou fou (nI 1) ) (cwV 2 hts (g_V t_784 t_786 s_22 t_6 t_787) rfl rfl rfl (by decide +kernel) ⟨by decide, by decide⟩) (xP_v hP hK hD 0 rfl rfl) rfl rfl hl.1 rfl (lv_room (Nat.le_of_ble_eq_true rfl)) d_M_rangeTotal_14 ⟨Nat.le_refl _, Nat.le_refl _⟩) hS (fun q _ h => xA_up hS.1 q h) (fun q h => xA_up hS.1 q h) (fun r14 u14 t H1 locs1 ht hvm q14 hB hz1 hk1 hS => ?_)
    obtain ⟨hP1, hK1, hD1⟩ := hB
    rw [ht] at hP1
    have hD : va_D (xA 9 am s.heap.size) (mw_ am cm (nI 0) mw mwr mfl mact (nI 1) (-1) (nI 0) mlog mlive had (nI 0) (-1) (nI 0) (nI 0) (nI 0) pg pla sou fou) := hD1.weaken (fun _ q _ h => xA_up hSz _ h)
    have hP : va_P (dC, dI) vwCl (mw_ am cm (nI 0) mw mwr mfl mact (nI 1) (-1) (nI 0) mlog mlive had (nI 0) (-1) (nI 0) (nI 0) (nI 0) pg pla sou fou) H1 := hP1
    generalize H1 = H at hP hS ⊢
    generalize locs1 = locs at hS ⊢
    subst q14
    refine lv_if_eq (tgt := 22) hx hb d_M_rangeTotal_17 (by decide) (fun c17 => ?_) (fun c17 => ?_)
    ·
      refine lv_lconst (v := 0) hx hb d_M_rangeTotal_22 (by decide) ?_
      refine lv_lstore_n hx hb d_M_rangeTotal_23 rfl hl (by decide) rfl (fun ls hl => ?_)
      have hl : lv_has ls 6 [(3, .long 0), (0, .ref (am 0)), (1, .int fr), (2, .int to)] := hl
      refine lv_iconst (v := nI 1) hx hb d_M_rangeTotal_24 (by decide) ?_
      refine lv_istore hx hb d_M_rangeTotal_25 hl (by decide) rfl (fun ls hl => ?_)
      have hl : lv_has ls 6 [(5, .int (nI 1)), (3, .long 0), (0, .ref (am 0)), (1, .int fr), (2, .int to)] := hl
      refine lv_iload hx hb d_M_rangeTotal_27 (lv_at hl 0 rfl) ?_
      refine lv_aload_n hx hb d_M_rangeTotal_29 rfl (lv_at hl 2 rfl) ?_
      refine vp_callSi (va_runV (C := R_M) (As := []) (rest := [.int (nI 1)]) ⟨hx, hb, hml, hown, hts⟩ (c_M_tickets_f l dC dI am cm (nI 0) mw mwr mfl mact (nI 1) (-1) (nI 0) mlog mlive had (nI 0) (-1) (nI 0) (nI 0) (nI 0) pg pla sou fou  ) (cwV 0 hts (g_V t_865 t_867 s_39 t_6 t_868) rfl rfl rfl (by decide +kernel) ⟨by decide, by decide⟩) (xR_v hP hK 0 rfl rfl) rfl rfl hl.1 rfl (lv_room (Nat.le_of_ble_eq_true rfl)) d_M_rangeTotal_30 ⟨Nat.le_refl _, Nat.le_refl _⟩).run (fun r30 q30 => ?_)
      subst q30
      refine lv_icmp_gt (tgt := 77) hx hb d_M_rangeTotal_33 (by decide) (fun c33 => ?_) (fun c33 => ?_)
      ·
        refine lv_lload_n hx hb d_M_rangeTotal_77 rfl (lv_at hl 1 rfl) ?_
        exact W.lret (v := 0) hx hb hr (fun t ht hW => ⟨⟨0, (), rfl, by first | rfl | trivial | omega, ⟨by rw [ht]; exact hP, va_K.moved hW.alike hK, hD⟩⟩, hS.F ht⟩) hS.2.2 d_M_rangeTotal_78
      ·
        exact absurd c33 (by decide)
    ·
      exact absurd c17 (by decide)
  ·
    exact absurd c6 (by decide)
set_option maxHeartbeats 4000000 in
set_option maxRecDepth 100000 in
theorem c_M_find_f (l : Launch) (dC : Nat → ClassId) (dI : Nat → Nat → Nat) (am cm : Nat → Nat) (sz : Nat) (th : Int32) (mw mwr mfl mact : Nat → Int32) (on cut mrec : Int32) (mlog mlive had : Nat → Int32) (mser mcur mrd mwt worn : Int32) (pg : Nat → Int32) (pla sou fou : Int32) (pl fr : Int32) : Met l y_M_find w_M_find ({ frames := 1, cells := 0, slots := 0, locals := 22 }) (xP (dC, dI) vwCl (mt cm) (mw_ am cm th mw mwr mfl mact (nI 1) (-1) (nI 0) mlog mlive had (nI 0) (-1) (nI 0) (nI 0) (nI 0) pg pla sou fou) sz [.ref (am 0), .int pl, .int fr]) (va_Qi (fun r (u : Unit) => r = nI 0) (fun (u : Unit) (t : State) => xB (dC, dI) vwCl (mt cm) (xA 9 am sz) (mw_ am cm (nI 0) mw mwr mfl mact (nI 1) (-1) (nI 0) mlog mlive had (nI 0) (-1) (nI 0) (nI 0) (nI 0) pg pla sou fou) t) (xA 9 am sz)) 0 0 (xA 9 am sz) := by
  refine Met.ofW (cc := b_M_find) (maxL := 4) (ret := (some (.int))) (by decide) rfl ?_
  intro P e s m args below meth c0 s₁ B hml hv
  obtain ⟨rfl, hsz, hP, hK, hD0⟩ := hv
  have hx := B.exec
  have hb := B.bytes
  have hr := B.returns
  have hts := atoms_spec (ws := w_M_find) B.pre
  have hown : s.vm.findClass R_M = some m.cls := findClass_of_methodNamed B.named
  have hlocks := B.notSynchronized
  subst hsz
  have hD := mw_D (sz := s.heap.size) hD0
  have hS : va_S (xA 9 am s.heap.size) s.heap s.heap [] := va_S.rf
  have hA : ∀ q : Nat, s.heap.size ≤ q → (xA 9 am s.heap.size) q := fun q h => Or.inr h
  have hl := lv_entry ([.ref (am 0), .int pl, .int fr]) (n := 4) (Nat.le_of_ble_eq_true rfl)
  rw [lg_entry_eq]
  generalize (lg_sl ([.ref (am 0), .int pl, .int fr]) ++ List.replicate (4 - (lg_sl ([.ref (am 0), .int pl, .int fr])).length) Slot.unset).toArray = ls at hl ⊢
  have hl : lv_has ls 4 [(0, .ref (am 0)), (1, .int pl), (2, .int fr)] := hl
  refine lv_aload_n hx hb d_M_find_0 rfl (lv_at hl 0 rfl) ?_
  refine lv_iconst (v := nI 1) hx hb d_M_find_1 (by decide) ?_
  refine lv_aload_n hx hb d_M_find_2 rfl (lv_at hl 0 rfl) ?_
  refine va_get (D := (dC, dI)) (ci := 5) (v := .int (nI 1)) (C := R_M) (T := F_M) (N := 20) hx hb hts (fun w h => List.mem_cons_of_mem _ (in_M w h)) hown hK hP 0 rfl rfl 5 (by decide) (hts (.fieldLink R_M 23 R_M "on" "Z") (List.mem_cons_of_mem _ t_717)) (fun _ h9 => h9) rfl d_M_find_3 ?_
  refine lv_if_ne (tgt := 13) hx hb d_M_find_6 (by decide) (fun c6 => ?_) (fun c6 => ?_)
  ·
    refine lv_iconst (v := nI 0) hx hb d_M_find_13 (by decide) ?_
    have hSz := hS.1
    refine va_calli (va_runV (C := R_M) (As := [.int (nI 1), .int (nI 0)]) (rest := []) ⟨hx, hb, hml, hown, hts⟩ (c_M_fails_0 l dC dI am cm s.heap.size th mw mwr mfl mact (nI 1) (-1) (nI 0) mlog mlive had (nI 0) (-1) (nI 0) (nI 0) (nI 0) pg pla sou fou (nI 1) ) (cwV 2 hts (g_V t_784 t_786 s_22 t_6 t_787) rfl rfl rfl (by decide +kernel) ⟨by decide, by decide⟩) (xP_v hP hK hD 0 rfl rfl) rfl rfl hl.1 rfl (lv_room (Nat.le_of_ble_eq_true rfl)) d_M_find_14 ⟨Nat.le_refl _, Nat.le_refl _⟩) hS (fun q _ h => xA_up hS.1 q h) (fun q h => xA_up hS.1 q h) (fun r14 u14 t H1 locs1 ht hvm q14 hB hz1 hk1 hS => ?_)
    obtain ⟨hP1, hK1, hD1⟩ := hB
    rw [ht] at hP1
    have hD : va_D (xA 9 am s.heap.size) (mw_ am cm (nI 0) mw mwr mfl mact (nI 1) (-1) (nI 0) mlog mlive had (nI 0) (-1) (nI 0) (nI 0) (nI 0) pg pla sou fou) := hD1.weaken (fun _ q _ h => xA_up hSz _ h)
    have hP : va_P (dC, dI) vwCl (mw_ am cm (nI 0) mw mwr mfl mact (nI 1) (-1) (nI 0) mlog mlive had (nI 0) (-1) (nI 0) (nI 0) (nI 0) pg pla sou fou) H1 := hP1
    generalize H1 = H at hP hS ⊢
    generalize locs1 = locs at hS ⊢
    subst q14
    refine lv_if_eq (tgt := 22) hx hb d_M_find_17 (by decide) (fun c17 => ?_) (fun c17 => ?_)
    ·
      refine lv_iconst (v := nI 1) hx hb d_M_find_22 (by decide) ?_
      refine lv_istore_n hx hb d_M_find_23 rfl hl (by decide) rfl (fun ls hl => ?_)
      have hl : lv_has ls 4 [(3, .int (nI 1)), (0, .ref (am 0)), (1, .int pl), (2, .int fr)] := hl
      refine lv_iload_n hx hb d_M_find_24 rfl (lv_at hl 0 rfl) ?_
      refine lv_aload_n hx hb d_M_find_25 rfl (lv_at hl 1 rfl) ?_
      refine vp_callSi (va_runV (C := R_M) (As := []) (rest := [.int (nI 1)]) ⟨hx, hb, hml, hown, hts⟩ (c_M_tickets_f l dC dI am cm (nI 0) mw mwr mfl mact (nI 1) (-1) (nI 0) mlog mlive had (nI 0) (-1) (nI 0) (nI 0) (nI 0) pg pla sou fou  ) (cwV 0 hts (g_V t_865 t_867 s_39 t_6 t_868) rfl rfl rfl (by decide +kernel) ⟨by decide, by decide⟩) (xR_v hP hK 0 rfl rfl) rfl rfl hl.1 rfl (lv_room (Nat.le_of_ble_eq_true rfl)) d_M_find_26 ⟨Nat.le_refl _, Nat.le_refl _⟩).run (fun r26 q26 => ?_)
      subst q26
      refine lv_icmp_gt (tgt := 59) hx hb d_M_find_29 (by decide) (fun c29 => ?_) (fun c29 => ?_)
      ·
        refine lv_iconst (v := nI 0) hx hb d_M_find_59 (by decide) ?_
        exact W.iret (v := nI 0) hx hb hr (fun t ht hW => ⟨⟨nI 0, (), rfl, by first | rfl | trivial | omega, ⟨by rw [ht]; exact hP, va_K.moved hW.alike hK, hD⟩⟩, hS.F ht⟩) hS.2.2 d_M_find_60
      ·
        exact absurd c29 (by decide)
    ·
      exact absurd c17 (by decide)
  ·
    exact absurd c6 (by decide)
set_option maxHeartbeats 4000000 in
set_option maxRecDepth 100000 in
theorem c_M_audit_f (l : Launch) (dC : Nat → ClassId) (dI : Nat → Nat → Nat) (am cm : Nat → Nat) (sz : Nat) (th : Int32) (mw mwr mfl mact : Nat → Int32) (on cut mrec : Int32) (mlog mlive had : Nat → Int32) (mser mcur mrd mwt worn : Int32) (pg : Nat → Int32) (pla sou fou : Int32) (fr to : Int32) : Met l y_M_audit w_M_audit ({ frames := 1, cells := 0, slots := 0, locals := 22 }) (xP (dC, dI) vwCl (mt cm) (mw_ am cm th mw mwr mfl mact (nI 1) (-1) (nI 0) mlog mlive had (nI 0) (-1) (nI 0) (nI 0) (nI 0) pg pla sou fou) sz [.ref (am 0), .int fr, .int to]) (va_Qi (fun r (u : Unit) => r = nI 0) (fun (u : Unit) (t : State) => xB (dC, dI) vwCl (mt cm) (xA 9 am sz) (mw_ am cm (nI 0) mw mwr mfl mact (nI 1) (-1) (nI 0) mlog mlive had (nI 0) (-1) (nI 0) (nI 0) (nI 0) pg pla sou fou) t) (xA 9 am sz)) 0 0 (xA 9 am sz) := by
  refine Met.ofW (cc := b_M_audit) (maxL := 4) (ret := (some (.int))) (by decide) rfl ?_
  intro P e s m args below meth c0 s₁ B hml hv
  obtain ⟨rfl, hsz, hP, hK, hD0⟩ := hv
  have hx := B.exec
  have hb := B.bytes
  have hr := B.returns
  have hts := atoms_spec (ws := w_M_audit) B.pre
  have hown : s.vm.findClass R_M = some m.cls := findClass_of_methodNamed B.named
  have hlocks := B.notSynchronized
  subst hsz
  have hD := mw_D (sz := s.heap.size) hD0
  have hS : va_S (xA 9 am s.heap.size) s.heap s.heap [] := va_S.rf
  have hA : ∀ q : Nat, s.heap.size ≤ q → (xA 9 am s.heap.size) q := fun q h => Or.inr h
  have hl := lv_entry ([.ref (am 0), .int fr, .int to]) (n := 4) (Nat.le_of_ble_eq_true rfl)
  rw [lg_entry_eq]
  generalize (lg_sl ([.ref (am 0), .int fr, .int to]) ++ List.replicate (4 - (lg_sl ([.ref (am 0), .int fr, .int to])).length) Slot.unset).toArray = ls at hl ⊢
  have hl : lv_has ls 4 [(0, .ref (am 0)), (1, .int fr), (2, .int to)] := hl
  refine lv_aload_n hx hb d_M_audit_0 rfl (lv_at hl 0 rfl) ?_
  refine lv_iconst (v := nI 1) hx hb d_M_audit_1 (by decide) ?_
  refine lv_aload_n hx hb d_M_audit_2 rfl (lv_at hl 0 rfl) ?_
  refine va_get (D := (dC, dI)) (ci := 5) (v := .int (nI 1)) (C := R_M) (T := F_M) (N := 20) hx hb hts (fun w h => List.mem_cons_of_mem _ (in_M w h)) hown hK hP 0 rfl rfl 5 (by decide) (hts (.fieldLink R_M 23 R_M "on" "Z") (List.mem_cons_of_mem _ t_717)) (fun _ h9 => h9) rfl d_M_audit_3 ?_
  refine lv_if_ne (tgt := 13) hx hb d_M_audit_6 (by decide) (fun c6 => ?_) (fun c6 => ?_)
  ·
    refine lv_iconst (v := nI 0) hx hb d_M_audit_13 (by decide) ?_
    have hSz := hS.1
    refine va_calli (va_runV (C := R_M) (As := [.int (nI 1), .int (nI 0)]) (rest := []) ⟨hx, hb, hml, hown, hts⟩ (c_M_fails_0 l dC dI am cm s.heap.size th mw mwr mfl mact (nI 1) (-1) (nI 0) mlog mlive had (nI 0) (-1) (nI 0) (nI 0) (nI 0) pg pla sou fou (nI 1) ) (cwV 2 hts (g_V t_784 t_786 s_22 t_6 t_787) rfl rfl rfl (by decide +kernel) ⟨by decide, by decide⟩) (xP_v hP hK hD 0 rfl rfl) rfl rfl hl.1 rfl (lv_room (Nat.le_of_ble_eq_true rfl)) d_M_audit_14 ⟨Nat.le_refl _, Nat.le_refl _⟩) hS (fun q _ h => xA_up hS.1 q h) (fun q h => xA_up hS.1 q h) (fun r14 u14 t H1 locs1 ht hvm q14 hB hz1 hk1 hS => ?_)
    obtain ⟨hP1, hK1, hD1⟩ := hB
    rw [ht] at hP1
    have hD : va_D (xA 9 am s.heap.size) (mw_ am cm (nI 0) mw mwr mfl mact (nI 1) (-1) (nI 0) mlog mlive had (nI 0) (-1) (nI 0) (nI 0) (nI 0) pg pla sou fou) := hD1.weaken (fun _ q _ h => xA_up hSz _ h)
    have hP : va_P (dC, dI) vwCl (mw_ am cm (nI 0) mw mwr mfl mact (nI 1) (-1) (nI 0) mlog mlive had (nI 0) (-1) (nI 0) (nI 0) (nI 0) pg pla sou fou) H1 := hP1
    generalize H1 = H at hP hS ⊢
    generalize locs1 = locs at hS ⊢
    subst q14
    refine lv_if_eq (tgt := 22) hx hb d_M_audit_17 (by decide) (fun c17 => ?_) (fun c17 => ?_)
    ·
      refine lv_iconst (v := nI 1) hx hb d_M_audit_22 (by decide) ?_
      refine lv_istore_n hx hb d_M_audit_23 rfl hl (by decide) rfl (fun ls hl => ?_)
      have hl : lv_has ls 4 [(3, .int (nI 1)), (0, .ref (am 0)), (1, .int fr), (2, .int to)] := hl
      refine lv_iload_n hx hb d_M_audit_24 rfl (lv_at hl 0 rfl) ?_
      refine lv_aload_n hx hb d_M_audit_25 rfl (lv_at hl 1 rfl) ?_
      refine vp_callSi (va_runV (C := R_M) (As := []) (rest := [.int (nI 1)]) ⟨hx, hb, hml, hown, hts⟩ (c_M_tickets_f l dC dI am cm (nI 0) mw mwr mfl mact (nI 1) (-1) (nI 0) mlog mlive had (nI 0) (-1) (nI 0) (nI 0) (nI 0) pg pla sou fou  ) (cwV 0 hts (g_V t_865 t_867 s_39 t_6 t_868) rfl rfl rfl (by decide +kernel) ⟨by decide, by decide⟩) (xR_v hP hK 0 rfl rfl) rfl rfl hl.1 rfl (lv_room (Nat.le_of_ble_eq_true rfl)) d_M_audit_26 ⟨Nat.le_refl _, Nat.le_refl _⟩).run (fun r26 q26 => ?_)
      subst q26
      refine lv_icmp_gt (tgt := 62) hx hb d_M_audit_29 (by decide) (fun c29 => ?_) (fun c29 => ?_)
      ·
        refine lv_iconst (v := nI 0) hx hb d_M_audit_62 (by decide) ?_
        exact W.iret (v := nI 0) hx hb hr (fun t ht hW => ⟨⟨nI 0, (), rfl, by first | rfl | trivial | omega, ⟨by rw [ht]; exact hP, va_K.moved hW.alike hK, hD⟩⟩, hS.F ht⟩) hS.2.2 d_M_audit_63
      ·
        exact absurd c29 (by decide)
    ·
      exact absurd c17 (by decide)
  ·
    exact absurd c6 (by decide)
set_option maxHeartbeats 4000000 in
set_option maxRecDepth 100000 in
theorem c_M_exportByte_f (l : Launch) (dC : Nat → ClassId) (dI : Nat → Nat → Nat) (am cm : Nat → Nat) (sz : Nat) (th : Int32) (mw mwr mfl mact : Nat → Int32) (on cut mrec : Int32) (mlog mlive had : Nat → Int32) (mser mcur mrd mwt worn : Int32) (pg : Nat → Int32) (pla sou fou : Int32) (fr to ix : Int32) : Met l y_M_exportByte w_M_exportByte ({ frames := 1, cells := 0, slots := 0, locals := 22 }) (xP (dC, dI) vwCl (mt cm) (mw_ am cm th mw mwr mfl mact (nI 1) (-1) (nI 0) mlog mlive had (nI 0) (-1) (nI 0) (nI 0) (nI 0) pg pla sou fou) sz [.ref (am 0), .int fr, .int to, .int ix]) (va_Qi (fun r (u : Unit) => r = -1) (fun (u : Unit) (t : State) => xB (dC, dI) vwCl (mt cm) (xA 9 am sz) (mw_ am cm (nI 0) mw mwr mfl mact (nI 1) (-1) (nI 0) mlog mlive had (nI 0) (-1) (nI 0) (nI 0) (nI 0) pg (nI 0) ix (-1)) t) (xA 9 am sz)) 0 0 (xA 9 am sz) := by
  refine Met.ofW (cc := b_M_exportByte) (maxL := 6) (ret := (some (.int))) (by decide) rfl ?_
  intro P e s m args below meth c0 s₁ B hml hv
  obtain ⟨rfl, hsz, hP, hK, hD0⟩ := hv
  have hx := B.exec
  have hb := B.bytes
  have hr := B.returns
  have hts := atoms_spec (ws := w_M_exportByte) B.pre
  have hown : s.vm.findClass R_M = some m.cls := findClass_of_methodNamed B.named
  have hlocks := B.notSynchronized
  subst hsz
  have hD := mw_D (sz := s.heap.size) hD0
  have hS : va_S (xA 9 am s.heap.size) s.heap s.heap [] := va_S.rf
  have hA : ∀ q : Nat, s.heap.size ≤ q → (xA 9 am s.heap.size) q := fun q h => Or.inr h
  have hl := lv_entry ([.ref (am 0), .int fr, .int to, .int ix]) (n := 6) (Nat.le_of_ble_eq_true rfl)
  rw [lg_entry_eq]
  generalize (lg_sl ([.ref (am 0), .int fr, .int to, .int ix]) ++ List.replicate (6 - (lg_sl ([.ref (am 0), .int fr, .int to, .int ix])).length) Slot.unset).toArray = ls at hl ⊢
  have hl : lv_has ls 6 [(0, .ref (am 0)), (1, .int fr), (2, .int to), (3, .int ix)] := hl
  refine lv_aload_n hx hb d_M_exportByte_0 rfl (lv_at hl 0 rfl) ?_
  refine lv_iconst (v := nI 1) hx hb d_M_exportByte_1 (by decide) ?_
  refine lv_aload_n hx hb d_M_exportByte_2 rfl (lv_at hl 0 rfl) ?_
  refine va_get (D := (dC, dI)) (ci := 5) (v := .int (nI 1)) (C := R_M) (T := F_M) (N := 20) hx hb hts (fun w h => List.mem_cons_of_mem _ (in_M w h)) hown hK hP 0 rfl rfl 5 (by decide) (hts (.fieldLink R_M 23 R_M "on" "Z") (List.mem_cons_of_mem _ t_717)) (fun _ h9 => h9) rfl d_M_exportByte_3 ?_
  refine lv_if_ne (tgt := 13) hx hb d_M_exportByte_6 (by decide) (fun c6 => ?_) (fun c6 => ?_)
  ·
    refine lv_iconst (v := nI 0) hx hb d_M_exportByte_13 (by decide) ?_
    have hSz := hS.1
    refine va_calli (va_runV (C := R_M) (As := [.int (nI 1), .int (nI 0)]) (rest := []) ⟨hx, hb, hml, hown, hts⟩ (c_M_fails_0 l dC dI am cm s.heap.size th mw mwr mfl mact (nI 1) (-1) (nI 0) mlog mlive had (nI 0) (-1) (nI 0) (nI 0) (nI 0) pg pla sou fou (nI 1) ) (cwV 2 hts (g_V t_784 t_786 s_22 t_6 t_787) rfl rfl rfl (by decide +kernel) ⟨by decide, by decide⟩) (xP_v hP hK hD 0 rfl rfl) rfl rfl hl.1 rfl (lv_room (Nat.le_of_ble_eq_true rfl)) d_M_exportByte_14 ⟨Nat.le_refl _, Nat.le_refl _⟩) hS (fun q _ h => xA_up hS.1 q h) (fun q h => xA_up hS.1 q h) (fun r14 u14 t H1 locs1 ht hvm q14 hB hz1 hk1 hS => ?_)
    obtain ⟨hP1, hK1, hD1⟩ := hB
    rw [ht] at hP1
    have hD : va_D (xA 9 am s.heap.size) (mw_ am cm (nI 0) mw mwr mfl mact (nI 1) (-1) (nI 0) mlog mlive had (nI 0) (-1) (nI 0) (nI 0) (nI 0) pg pla sou fou) := hD1.weaken (fun _ q _ h => xA_up hSz _ h)
    have hP : va_P (dC, dI) vwCl (mw_ am cm (nI 0) mw mwr mfl mact (nI 1) (-1) (nI 0) mlog mlive had (nI 0) (-1) (nI 0) (nI 0) (nI 0) pg pla sou fou) H1 := hP1
    generalize H1 = H at hP hS ⊢
    generalize locs1 = locs at hS ⊢
    subst q14
    refine lv_if_eq (tgt := 22) hx hb d_M_exportByte_17 (by decide) (fun c17 => ?_) (fun c17 => ?_)
    ·
      refine lv_aload_n hx hb d_M_exportByte_22 rfl (lv_at hl 0 rfl) ?_
      refine lv_iconst (v := nI 0) hx hb d_M_exportByte_23 (by decide) ?_
      refine va_put (D := (dC, dI)) (ci := 5) (v := .int (nI 0)) (ty := .int) (C := R_M) (T := F_M) (N := 20) hx hb hts (fun w h => List.mem_cons_of_mem _ (in_M w h)) t_M ok_M nm_M hown hK hP hD hS 0 rfl rfl 17 (by decide) (hts (.fieldLink R_M 172 R_M "place" "I") (List.mem_cons_of_mem _ t_729)) (fun _ h9 => h9) rfl (by decide +kernel) rfl rfl (Nat.le_of_ble_eq_true rfl) d_M_exportByte_24 (fun H locs hP hD hS => ?_)
      have hP : va_P (dC, dI) vwCl (mw_ am cm (nI 0) mw mwr mfl mact (nI 1) (-1) (nI 0) mlog mlive had (nI 0) (-1) (nI 0) (nI 0) (nI 0) pg (nI 0) sou fou) H := hP
      have hD : va_D (xA 9 am s.heap.size) (mw_ am cm (nI 0) mw mwr mfl mact (nI 1) (-1) (nI 0) mlog mlive had (nI 0) (-1) (nI 0) (nI 0) (nI 0) pg (nI 0) sou fou) := hD
      refine lv_aload_n hx hb d_M_exportByte_27 rfl (lv_at hl 0 rfl) ?_
      refine lv_iload_n hx hb d_M_exportByte_28 rfl (lv_at hl 3 rfl) ?_
      refine va_put (D := (dC, dI)) (ci := 5) (v := .int ix) (ty := .int) (C := R_M) (T := F_M) (N := 20) hx hb hts (fun w h => List.mem_cons_of_mem _ (in_M w h)) t_M ok_M nm_M hown hK hP hD hS 0 rfl rfl 18 (by decide) (hts (.fieldLink R_M 175 R_M "sought" "I") (List.mem_cons_of_mem _ t_730)) (fun _ h9 => h9) rfl (by decide +kernel) rfl rfl (Nat.le_of_ble_eq_true rfl) d_M_exportByte_29 (fun H locs hP hD hS => ?_)
      have hP : va_P (dC, dI) vwCl (mw_ am cm (nI 0) mw mwr mfl mact (nI 1) (-1) (nI 0) mlog mlive had (nI 0) (-1) (nI 0) (nI 0) (nI 0) pg (nI 0) ix fou) H := hP
      have hD : va_D (xA 9 am s.heap.size) (mw_ am cm (nI 0) mw mwr mfl mact (nI 1) (-1) (nI 0) mlog mlive had (nI 0) (-1) (nI 0) (nI 0) (nI 0) pg (nI 0) ix fou) := hD
      refine lv_aload_n hx hb d_M_exportByte_32 rfl (lv_at hl 0 rfl) ?_
      refine lv_iconst (v := (-1)) hx hb d_M_exportByte_33 (by decide) ?_
      refine va_put (D := (dC, dI)) (ci := 5) (v := .int (-1)) (ty := .int) (C := R_M) (T := F_M) (N := 20) hx hb hts (fun w h => List.mem_cons_of_mem _ (in_M w h)) t_M ok_M nm_M hown hK hP hD hS 0 rfl rfl 19 (by decide) (hts (.fieldLink R_M 178 R_M "found" "I") (List.mem_cons_of_mem _ t_731)) (fun _ h9 => h9) rfl (by decide +kernel) rfl rfl (Nat.le_of_ble_eq_true rfl) d_M_exportByte_34 (fun H locs hP hD hS => ?_)
      have hP : va_P (dC, dI) vwCl (mw_ am cm (nI 0) mw mwr mfl mact (nI 1) (-1) (nI 0) mlog mlive had (nI 0) (-1) (nI 0) (nI 0) (nI 0) pg (nI 0) ix (-1)) H := hP
      have hD : va_D (xA 9 am s.heap.size) (mw_ am cm (nI 0) mw mwr mfl mact (nI 1) (-1) (nI 0) mlog mlive had (nI 0) (-1) (nI 0) (nI 0) (nI 0) pg (nI 0) ix (-1)) := hD
      refine lv_iconst (v := nI 1) hx hb d_M_exportByte_37 (by decide) ?_
      refine lv_istore hx hb d_M_exportByte_38 hl (by decide) rfl (fun ls hl => ?_)
      have hl : lv_has ls 6 [(4, .int (nI 1)), (0, .ref (am 0)), (1, .int fr), (2, .int to), (3, .int ix)] := hl
      refine lv_iload hx hb d_M_exportByte_40 (lv_at hl 0 rfl) ?_
      refine lv_aload_n hx hb d_M_exportByte_42 rfl (lv_at hl 1 rfl) ?_
      refine vp_callSi (va_runV (C := R_M) (As := []) (rest := [.int (nI 1)]) ⟨hx, hb, hml, hown, hts⟩ (c_M_tickets_f l dC dI am cm (nI 0) mw mwr mfl mact (nI 1) (-1) (nI 0) mlog mlive had (nI 0) (-1) (nI 0) (nI 0) (nI 0) pg (nI 0) ix (-1)  ) (cwV 0 hts (g_V t_865 t_867 s_39 t_6 t_868) rfl rfl rfl (by decide +kernel) ⟨by decide, by decide⟩) (xR_v hP hK 0 rfl rfl) rfl rfl hl.1 rfl (lv_room (Nat.le_of_ble_eq_true rfl)) d_M_exportByte_43 ⟨Nat.le_refl _, Nat.le_refl _⟩).run (fun r43 q43 => ?_)
      subst q43
      refine lv_icmp_gt (tgt := 168) hx hb d_M_exportByte_46 (by decide) (fun c46 => ?_) (fun c46 => ?_)
      ·
        refine lv_aload_n hx hb d_M_exportByte_168 rfl (lv_at hl 1 rfl) ?_
        refine va_get (D := (dC, dI)) (ci := 5) (v := .int (-1)) (C := R_M) (T := F_M) (N := 20) hx hb hts (fun w h => List.mem_cons_of_mem _ (in_M w h)) hown hK hP 0 rfl rfl 19 (by decide) (hts (.fieldLink R_M 178 R_M "found" "I") (List.mem_cons_of_mem _ t_731)) (fun _ h9 => h9) rfl d_M_exportByte_169 ?_
        exact W.iret (v := (-1)) hx hb hr (fun t ht hW => ⟨⟨(-1), (), rfl, by first | rfl | trivial | omega, ⟨by rw [ht]; exact hP, va_K.moved hW.alike hK, hD⟩⟩, hS.F ht⟩) hS.2.2 d_M_exportByte_172
      ·
        exact absurd c46 (by decide)
    ·
      exact absurd c17 (by decide)
  ·
    exact absurd c6 (by decide)
end
section
set_option maxHeartbeats 4000000 in
set_option maxRecDepth 100000 in
theorem c_M_setProduct_ok (l : Launch) (dC : Nat → ClassId) (dI : Nat → Nat → Nat) (am cm : Nat → Nat) (sz : Nat) (th : Int32) (mw mwr mfl mact : Nat → Int32) (on cut mrec : Int32) (mlog mlive had : Nat → Int32) (mser mcur mrd mwt worn : Int32) (pg : Nat → Int32) (pla sou fou : Int32) (j : Nat) (b : Int32) (hj : j < 40) : Met l y_M_setProduct w_M_setProduct ({ frames := 1, cells := 0, slots := 0, locals := 22 }) (xP (dC, dI) vwCl (mt cm) (mw_ am cm th mw mwr mfl mact (nI 1) (-1) (nI 0) mlog mlive had (nI 0) (-1) (nI 0) (nI 0) (nI 0) pg pla sou fou) sz [.ref (am 0), .int (nI j), .int b]) (va_Qv (fun (u : Unit) => True) (fun (u : Unit) (t : State) => xB (dC, dI) vwCl (mt cm) (xA 9 am sz) (mw_ am cm (nI 0) mw mwr mfl (upd mact j (vp_nar .boolean b)) (nI 1) (-1) (nI 0) mlog mlive had (nI 0) (-1) (nI 0) (nI 0) (nI 0) pg pla sou fou) t) (xA 9 am sz)) 0 0 (xA 9 am sz) := by
  refine Met.ofW (cc := b_M_setProduct) (maxL := 3) (ret := none) (by decide) rfl ?_
  intro P e s m args below meth c0 s₁ B hml hv
  obtain ⟨rfl, hsz, hP, hK, hD0⟩ := hv
  have hx := B.exec
  have hb := B.bytes
  have hr := B.returns
  have hts := atoms_spec (ws := w_M_setProduct) B.pre
  have hown : s.vm.findClass R_M = some m.cls := findClass_of_methodNamed B.named
  have hlocks := B.notSynchronized
  subst hsz
  have hD := mw_D (sz := s.heap.size) hD0
  have hS : va_S (xA 9 am s.heap.size) s.heap s.heap [] := va_S.rf
  have hA : ∀ q : Nat, s.heap.size ≤ q → (xA 9 am s.heap.size) q := fun q h => Or.inr h
  have hl := lv_entry ([.ref (am 0), .int (nI j), .int b]) (n := 3) (Nat.le_of_ble_eq_true rfl)
  rw [lg_entry_eq]
  generalize (lg_sl ([.ref (am 0), .int (nI j), .int b]) ++ List.replicate (3 - (lg_sl ([.ref (am 0), .int (nI j), .int b])).length) Slot.unset).toArray = ls at hl ⊢
  have hl : lv_has ls 3 [(0, .ref (am 0)), (1, .int (nI j)), (2, .int b)] := hl
  refine lv_aload_n hx hb d_M_setProduct_0 rfl (lv_at hl 0 rfl) ?_
  refine lv_iconst (v := nI 1) hx hb d_M_setProduct_1 (by decide) ?_
  refine lv_iload_n hx hb d_M_setProduct_2 rfl (lv_at hl 1 rfl) ?_
  refine lv_iconst (v := nI 0) hx hb d_M_setProduct_3 (by decide) ?_
  refine lv_bipush (v := nI 39) hx hb d_M_setProduct_4 (by decide) ?_
  refine vp_callSi (va_runS (As := [.int (nI j), .int (nI 0), .int (nI 39)]) (rest := [.int (nI 1), .ref (am 0)]) ⟨hx, hb, hml, hown, hts⟩ (c_M_isIn l dC dI (nI j) (nI 0) (nI 39) ) (cwS 3 hts (g_S t_781 t_782 t_6 t_783) rfl rfl rfl (by decide +kernel) ⟨by decide, by decide⟩) (xR_s (va_P.sub hP [] rfl) (hK.sub [] rfl)) rfl rfl hl.1 rfl (lv_room (Nat.le_of_ble_eq_true rfl)) d_M_setProduct_6 ⟨Nat.le_refl _, Nat.le_refl _⟩).run (fun r6 q6 => ?_)
  obtain ⟨rfl, -⟩ := q6.resolve_right (fun z => z.2 (⟨(nI_leI (by decide) (by omega)).mpr (Nat.zero_le _), (nI_leI (by omega) (by decide)).mpr (by omega)⟩))
  refine lv_if_ne (tgt := 16) hx hb d_M_setProduct_9 (by decide) (fun c9 => ?_) (fun c9 => ?_)
  ·
    refine lv_iconst (v := nI 0) hx hb d_M_setProduct_16 (by decide) ?_
    have hSz := hS.1
    refine va_calli (va_runV (C := R_M) (As := [.int (nI 1), .int (nI 0)]) (rest := []) ⟨hx, hb, hml, hown, hts⟩ (c_M_fails_0 l dC dI am cm s.heap.size th mw mwr mfl mact (nI 1) (-1) (nI 0) mlog mlive had (nI 0) (-1) (nI 0) (nI 0) (nI 0) pg pla sou fou (nI 1) ) (cwV 2 hts (g_V t_784 t_786 s_22 t_6 t_787) rfl rfl rfl (by decide +kernel) ⟨by decide, by decide⟩) (xP_v hP hK hD 0 rfl rfl) rfl rfl hl.1 rfl (lv_room (Nat.le_of_ble_eq_true rfl)) d_M_setProduct_17 ⟨Nat.le_refl _, Nat.le_refl _⟩) hS (fun q _ h => xA_up hS.1 q h) (fun q h => xA_up hS.1 q h) (fun r17 u17 t H1 locs1 ht hvm q17 hB hz1 hk1 hS => ?_)
    obtain ⟨hP1, hK1, hD1⟩ := hB
    rw [ht] at hP1
    have hD : va_D (xA 9 am s.heap.size) (mw_ am cm (nI 0) mw mwr mfl mact (nI 1) (-1) (nI 0) mlog mlive had (nI 0) (-1) (nI 0) (nI 0) (nI 0) pg pla sou fou) := hD1.weaken (fun _ q _ h => xA_up hSz _ h)
    have hP : va_P (dC, dI) vwCl (mw_ am cm (nI 0) mw mwr mfl mact (nI 1) (-1) (nI 0) mlog mlive had (nI 0) (-1) (nI 0) (nI 0) (nI 0) pg pla sou fou) H1 := hP1
    generalize H1 = H at hP hS ⊢
    generalize locs1 = locs at hS ⊢
    subst q17
    refine lv_if_ne (tgt := 30) hx hb d_M_setProduct_20 (by decide) (fun c20 => ?_) (fun c20 => ?_)
    ·
      exact absurd c20 (by decide)
    ·
      refine lv_aload_n hx hb d_M_setProduct_23 rfl (lv_at hl 0 rfl) ?_
      refine va_get (D := (dC, dI)) (ci := 5) (v := .ref (am 4)) (C := R_M) (T := F_M) (N := 20) hx hb hts (fun w h => List.mem_cons_of_mem _ (in_M w h)) hown hK hP 0 rfl rfl 4 (by decide) (hts (.fieldLink R_M 20 R_M "active" "[Z") (List.mem_cons_of_mem _ t_716)) (fun _ h9 => h9) rfl d_M_setProduct_24 ?_
      refine lv_iload_n hx hb d_M_setProduct_27 rfl (lv_at hl 1 rfl) ?_
      refine lv_iload_n hx hb d_M_setProduct_28 rfl (lv_at hl 2 rfl) ?_
      refine va_zast hx hb hK hP hD hS 4 3 rfl rfl (vp_in_nI (by omega) (by decide)) d_M_setProduct_29 (fun H locs hP hD hS => ?_)
      rw [nI_clamp (by omega)] at hP hD
      have hP : va_P (dC, dI) vwCl (mw_ am cm (nI 0) mw mwr mfl (upd mact j (vp_nar .boolean b)) (nI 1) (-1) (nI 0) mlog mlive had (nI 0) (-1) (nI 0) (nI 0) (nI 0) pg pla sou fou) H := hP
      have hD : va_D (xA 9 am s.heap.size) (mw_ am cm (nI 0) mw mwr mfl (upd mact j (vp_nar .boolean b)) (nI 1) (-1) (nI 0) mlog mlive had (nI 0) (-1) (nI 0) (nI 0) (nI 0) pg pla sou fou) := hD
      exact W.vret hx hb hr (fun t ht hW => ⟨⟨(), rfl, by first | rfl | trivial | omega, ⟨by rw [ht]; exact hP, va_K.moved hW.alike hK, hD⟩⟩, hS.F ht⟩) hS.2.2 d_M_setProduct_30
  ·
    exact absurd c9 (by decide)
set_option maxHeartbeats 4000000 in
set_option maxRecDepth 100000 in
theorem c_M_setProduct_bad (l : Launch) (dC : Nat → ClassId) (dI : Nat → Nat → Nat) (am cm : Nat → Nat) (sz : Nat) (th : Int32) (mw mwr mfl mact : Nat → Int32) (on cut mrec : Int32) (mlog mlive had : Nat → Int32) (mser mcur mrd mwt worn : Int32) (pg : Nat → Int32) (pla sou fou : Int32) (co b : Int32) (hok : ¬ (nI 0 ≤ co ∧ co ≤ nI 39)) : Met l y_M_setProduct w_M_setProduct ({ frames := 1, cells := 0, slots := 0, locals := 22 }) (xP (dC, dI) vwCl (mt cm) (mw_ am cm th mw mwr mfl mact (nI 1) (-1) (nI 0) mlog mlive had (nI 0) (-1) (nI 0) (nI 0) (nI 0) pg pla sou fou) sz [.ref (am 0), .int co, .int b]) (va_Qv (fun (u : Unit) => True) (fun (u : Unit) (t : State) => xB (dC, dI) vwCl (mt cm) (xA 9 am sz) (mw_ am cm (nI 1) mw mwr mfl mact (nI 1) (-1) (nI 0) mlog mlive had (nI 0) (-1) (nI 0) (nI 0) (nI 0) pg pla sou fou) t) (xA 9 am sz)) 0 0 (xA 9 am sz) := by
  refine Met.ofW (cc := b_M_setProduct) (maxL := 3) (ret := none) (by decide) rfl ?_
  intro P e s m args below meth c0 s₁ B hml hv
  obtain ⟨rfl, hsz, hP, hK, hD0⟩ := hv
  have hx := B.exec
  have hb := B.bytes
  have hr := B.returns
  have hts := atoms_spec (ws := w_M_setProduct) B.pre
  have hown : s.vm.findClass R_M = some m.cls := findClass_of_methodNamed B.named
  have hlocks := B.notSynchronized
  subst hsz
  have hD := mw_D (sz := s.heap.size) hD0
  have hS : va_S (xA 9 am s.heap.size) s.heap s.heap [] := va_S.rf
  have hA : ∀ q : Nat, s.heap.size ≤ q → (xA 9 am s.heap.size) q := fun q h => Or.inr h
  have hl := lv_entry ([.ref (am 0), .int co, .int b]) (n := 3) (Nat.le_of_ble_eq_true rfl)
  rw [lg_entry_eq]
  generalize (lg_sl ([.ref (am 0), .int co, .int b]) ++ List.replicate (3 - (lg_sl ([.ref (am 0), .int co, .int b])).length) Slot.unset).toArray = ls at hl ⊢
  have hl : lv_has ls 3 [(0, .ref (am 0)), (1, .int co), (2, .int b)] := hl
  refine lv_aload_n hx hb d_M_setProduct_0 rfl (lv_at hl 0 rfl) ?_
  refine lv_iconst (v := nI 1) hx hb d_M_setProduct_1 (by decide) ?_
  refine lv_iload_n hx hb d_M_setProduct_2 rfl (lv_at hl 1 rfl) ?_
  refine lv_iconst (v := nI 0) hx hb d_M_setProduct_3 (by decide) ?_
  refine lv_bipush (v := nI 39) hx hb d_M_setProduct_4 (by decide) ?_
  refine vp_callSi (va_runS (As := [.int co, .int (nI 0), .int (nI 39)]) (rest := [.int (nI 1), .ref (am 0)]) ⟨hx, hb, hml, hown, hts⟩ (c_M_isIn l dC dI co (nI 0) (nI 39) ) (cwS 3 hts (g_S t_781 t_782 t_6 t_783) rfl rfl rfl (by decide +kernel) ⟨by decide, by decide⟩) (xR_s (va_P.sub hP [] rfl) (hK.sub [] rfl)) rfl rfl hl.1 rfl (lv_room (Nat.le_of_ble_eq_true rfl)) d_M_setProduct_6 ⟨Nat.le_refl _, Nat.le_refl _⟩).run (fun r6 q6 => ?_)
  obtain ⟨rfl, -⟩ := q6.resolve_left (fun z => (hok) z.2)
  refine lv_if_ne (tgt := 16) hx hb d_M_setProduct_9 (by decide) (fun c9 => ?_) (fun c9 => ?_)
  ·
    exact absurd c9 (by decide)
  ·
    refine lv_iconst (v := nI 1) hx hb d_M_setProduct_12 (by decide) ?_
    refine lv_goto (tgt := 17) hx hb d_M_setProduct_13 (by decide) ?_
    have hSz := hS.1
    refine va_calli (va_runV (C := R_M) (As := [.int (nI 1), .int (nI 1)]) (rest := []) ⟨hx, hb, hml, hown, hts⟩ (c_M_fails_1 l dC dI am cm s.heap.size th mw mwr mfl mact (nI 1) (-1) (nI 0) mlog mlive had (nI 0) (-1) (nI 0) (nI 0) (nI 0) pg pla sou fou (nI 1) ) (cwV 2 hts (g_V t_784 t_786 s_22 t_6 t_787) rfl rfl rfl (by decide +kernel) ⟨by decide, by decide⟩) (xP_v hP hK hD 0 rfl rfl) rfl rfl hl.1 rfl (lv_room (Nat.le_of_ble_eq_true rfl)) d_M_setProduct_17 ⟨Nat.le_refl _, Nat.le_refl _⟩) hS (fun q _ h => xA_up hS.1 q h) (fun q h => xA_up hS.1 q h) (fun r17 u17 t H1 locs1 ht hvm q17 hB hz1 hk1 hS => ?_)
    obtain ⟨hP1, hK1, hD1⟩ := hB
    rw [ht] at hP1
    have hD : va_D (xA 9 am s.heap.size) (mw_ am cm (nI 1) mw mwr mfl mact (nI 1) (-1) (nI 0) mlog mlive had (nI 0) (-1) (nI 0) (nI 0) (nI 0) pg pla sou fou) := hD1.weaken (fun _ q _ h => xA_up hSz _ h)
    have hP : va_P (dC, dI) vwCl (mw_ am cm (nI 1) mw mwr mfl mact (nI 1) (-1) (nI 0) mlog mlive had (nI 0) (-1) (nI 0) (nI 0) (nI 0) pg pla sou fou) H1 := hP1
    generalize H1 = H at hP hS ⊢
    generalize locs1 = locs at hS ⊢
    subst q17
    refine lv_if_ne (tgt := 30) hx hb d_M_setProduct_20 (by decide) (fun c20 => ?_) (fun c20 => ?_)
    ·
      exact W.vret hx hb hr (fun t ht hW => ⟨⟨(), rfl, by first | rfl | trivial | omega, ⟨by rw [ht]; exact hP, va_K.moved hW.alike hK, hD⟩⟩, hS.F ht⟩) hS.2.2 d_M_setProduct_30
    ·
      exact absurd c20 (by decide)
set_option maxHeartbeats 4000000 in
set_option maxRecDepth 100000 in
theorem c_M_cutAfter_ok (l : Launch) (dC : Nat → ClassId) (dI : Nat → Nat → Nat) (am cm : Nat → Nat) (sz : Nat) (th : Int32) (mw mwr mfl mact : Nat → Int32) (on cut mrec : Int32) (mlog mlive had : Nat → Int32) (mser mcur mrd mwt worn : Int32) (pg : Nat → Int32) (pla sou fou : Int32) (n : Int32) (hok : nI 0 ≤ n ∧ n ≤ nI 300) : Met l y_M_cutAfter w_M_cutAfter ({ frames := 1, cells := 0, slots := 0, locals := 22 }) (xP (dC, dI) vwCl (mt cm) (mw_ am cm th mw mwr mfl mact (nI 1) (-1) (nI 0) mlog mlive had (nI 0) (-1) (nI 0) (nI 0) (nI 0) pg pla sou fou) sz [.ref (am 0), .int n]) (va_Qv (fun (u : Unit) => True) (fun (u : Unit) (t : State) => xB (dC, dI) vwCl (mt cm) (xA 9 am sz) (mw_ am cm (nI 0) mw mwr mfl mact (nI 1) n (nI 0) mlog mlive had (nI 0) (-1) (nI 0) (nI 0) (nI 0) pg pla sou fou) t) (xA 9 am sz)) 0 0 (xA 9 am sz) := by
  refine Met.ofW (cc := b_M_cutAfter) (maxL := 2) (ret := none) (by decide) rfl ?_
  intro P e s m args below meth c0 s₁ B hml hv
  obtain ⟨rfl, hsz, hP, hK, hD0⟩ := hv
  have hx := B.exec
  have hb := B.bytes
  have hr := B.returns
  have hts := atoms_spec (ws := w_M_cutAfter) B.pre
  have hown : s.vm.findClass R_M = some m.cls := findClass_of_methodNamed B.named
  have hlocks := B.notSynchronized
  subst hsz
  have hD := mw_D (sz := s.heap.size) hD0
  have hS : va_S (xA 9 am s.heap.size) s.heap s.heap [] := va_S.rf
  have hA : ∀ q : Nat, s.heap.size ≤ q → (xA 9 am s.heap.size) q := fun q h => Or.inr h
  have hl := lv_entry ([.ref (am 0), .int n]) (n := 2) (Nat.le_of_ble_eq_true rfl)
  rw [lg_entry_eq]
  generalize (lg_sl ([.ref (am 0), .int n]) ++ List.replicate (2 - (lg_sl ([.ref (am 0), .int n])).length) Slot.unset).toArray = ls at hl ⊢
  have hl : lv_has ls 2 [(0, .ref (am 0)), (1, .int n)] := hl
  refine lv_aload_n hx hb d_M_cutAfter_0 rfl (lv_at hl 0 rfl) ?_
  refine lv_iconst (v := nI 1) hx hb d_M_cutAfter_1 (by decide) ?_
  refine lv_iload_n hx hb d_M_cutAfter_2 rfl (lv_at hl 1 rfl) ?_
  refine lv_iconst (v := nI 0) hx hb d_M_cutAfter_3 (by decide) ?_
  refine lv_sipush (v := nI 300) hx hb d_M_cutAfter_4 (by decide) ?_
  refine vp_callSi (va_runS (As := [.int n, .int (nI 0), .int (nI 300)]) (rest := [.int (nI 1), .ref (am 0)]) ⟨hx, hb, hml, hown, hts⟩ (c_M_isIn l dC dI n (nI 0) (nI 300) ) (cwS 3 hts (g_S t_781 t_782 t_6 t_783) rfl rfl rfl (by decide +kernel) ⟨by decide, by decide⟩) (xR_s (va_P.sub hP [] rfl) (hK.sub [] rfl)) rfl rfl hl.1 rfl (lv_room (Nat.le_of_ble_eq_true rfl)) d_M_cutAfter_7 ⟨Nat.le_refl _, Nat.le_refl _⟩).run (fun r7 q7 => ?_)
  obtain ⟨rfl, -⟩ := q7.resolve_right (fun z => z.2 (hok))
  refine lv_if_ne (tgt := 17) hx hb d_M_cutAfter_10 (by decide) (fun c10 => ?_) (fun c10 => ?_)
  ·
    refine lv_iconst (v := nI 0) hx hb d_M_cutAfter_17 (by decide) ?_
    have hSz := hS.1
    refine va_calli (va_runV (C := R_M) (As := [.int (nI 1), .int (nI 0)]) (rest := []) ⟨hx, hb, hml, hown, hts⟩ (c_M_fails_0 l dC dI am cm s.heap.size th mw mwr mfl mact (nI 1) (-1) (nI 0) mlog mlive had (nI 0) (-1) (nI 0) (nI 0) (nI 0) pg pla sou fou (nI 1) ) (cwV 2 hts (g_V t_784 t_786 s_22 t_6 t_787) rfl rfl rfl (by decide +kernel) ⟨by decide, by decide⟩) (xP_v hP hK hD 0 rfl rfl) rfl rfl hl.1 rfl (lv_room (Nat.le_of_ble_eq_true rfl)) d_M_cutAfter_18 ⟨Nat.le_refl _, Nat.le_refl _⟩) hS (fun q _ h => xA_up hS.1 q h) (fun q h => xA_up hS.1 q h) (fun r18 u18 t H1 locs1 ht hvm q18 hB hz1 hk1 hS => ?_)
    obtain ⟨hP1, hK1, hD1⟩ := hB
    rw [ht] at hP1
    have hD : va_D (xA 9 am s.heap.size) (mw_ am cm (nI 0) mw mwr mfl mact (nI 1) (-1) (nI 0) mlog mlive had (nI 0) (-1) (nI 0) (nI 0) (nI 0) pg pla sou fou) := hD1.weaken (fun _ q _ h => xA_up hSz _ h)
    have hP : va_P (dC, dI) vwCl (mw_ am cm (nI 0) mw mwr mfl mact (nI 1) (-1) (nI 0) mlog mlive had (nI 0) (-1) (nI 0) (nI 0) (nI 0) pg pla sou fou) H1 := hP1
    generalize H1 = H at hP hS ⊢
    generalize locs1 = locs at hS ⊢
    subst q18
    refine lv_if_ne (tgt := 29) hx hb d_M_cutAfter_21 (by decide) (fun c21 => ?_) (fun c21 => ?_)
    ·
      exact absurd c21 (by decide)
    ·
      refine lv_aload_n hx hb d_M_cutAfter_24 rfl (lv_at hl 0 rfl) ?_
      refine lv_iload_n hx hb d_M_cutAfter_25 rfl (lv_at hl 1 rfl) ?_
      refine va_put (D := (dC, dI)) (ci := 5) (v := .int n) (ty := .int) (C := R_M) (T := F_M) (N := 20) hx hb hts (fun w h => List.mem_cons_of_mem _ (in_M w h)) t_M ok_M nm_M hown hK hP hD hS 0 rfl rfl 6 (by decide) (hts (.fieldLink R_M 27 R_M "cut" "I") (List.mem_cons_of_mem _ t_718)) (fun _ h9 => h9) rfl (by decide +kernel) rfl rfl (Nat.le_of_ble_eq_true rfl) d_M_cutAfter_26 (fun H locs hP hD hS => ?_)
      have hP : va_P (dC, dI) vwCl (mw_ am cm (nI 0) mw mwr mfl mact (nI 1) n (nI 0) mlog mlive had (nI 0) (-1) (nI 0) (nI 0) (nI 0) pg pla sou fou) H := hP
      have hD : va_D (xA 9 am s.heap.size) (mw_ am cm (nI 0) mw mwr mfl mact (nI 1) n (nI 0) mlog mlive had (nI 0) (-1) (nI 0) (nI 0) (nI 0) pg pla sou fou) := hD
      exact W.vret hx hb hr (fun t ht hW => ⟨⟨(), rfl, by first | rfl | trivial | omega, ⟨by rw [ht]; exact hP, va_K.moved hW.alike hK, hD⟩⟩, hS.F ht⟩) hS.2.2 d_M_cutAfter_29
  ·
    exact absurd c10 (by decide)
set_option maxHeartbeats 4000000 in
set_option maxRecDepth 100000 in
theorem c_M_cutAfter_bad (l : Launch) (dC : Nat → ClassId) (dI : Nat → Nat → Nat) (am cm : Nat → Nat) (sz : Nat) (th : Int32) (mw mwr mfl mact : Nat → Int32) (on cut mrec : Int32) (mlog mlive had : Nat → Int32) (mser mcur mrd mwt worn : Int32) (pg : Nat → Int32) (pla sou fou : Int32) (n : Int32) (hok : ¬ (nI 0 ≤ n ∧ n ≤ nI 300)) : Met l y_M_cutAfter w_M_cutAfter ({ frames := 1, cells := 0, slots := 0, locals := 22 }) (xP (dC, dI) vwCl (mt cm) (mw_ am cm th mw mwr mfl mact (nI 1) (-1) (nI 0) mlog mlive had (nI 0) (-1) (nI 0) (nI 0) (nI 0) pg pla sou fou) sz [.ref (am 0), .int n]) (va_Qv (fun (u : Unit) => True) (fun (u : Unit) (t : State) => xB (dC, dI) vwCl (mt cm) (xA 9 am sz) (mw_ am cm (nI 1) mw mwr mfl mact (nI 1) (-1) (nI 0) mlog mlive had (nI 0) (-1) (nI 0) (nI 0) (nI 0) pg pla sou fou) t) (xA 9 am sz)) 0 0 (xA 9 am sz) := by
  refine Met.ofW (cc := b_M_cutAfter) (maxL := 2) (ret := none) (by decide) rfl ?_
  intro P e s m args below meth c0 s₁ B hml hv
  obtain ⟨rfl, hsz, hP, hK, hD0⟩ := hv
  have hx := B.exec
  have hb := B.bytes
  have hr := B.returns
  have hts := atoms_spec (ws := w_M_cutAfter) B.pre
  have hown : s.vm.findClass R_M = some m.cls := findClass_of_methodNamed B.named
  have hlocks := B.notSynchronized
  subst hsz
  have hD := mw_D (sz := s.heap.size) hD0
  have hS : va_S (xA 9 am s.heap.size) s.heap s.heap [] := va_S.rf
  have hA : ∀ q : Nat, s.heap.size ≤ q → (xA 9 am s.heap.size) q := fun q h => Or.inr h
  have hl := lv_entry ([.ref (am 0), .int n]) (n := 2) (Nat.le_of_ble_eq_true rfl)
  rw [lg_entry_eq]
  generalize (lg_sl ([.ref (am 0), .int n]) ++ List.replicate (2 - (lg_sl ([.ref (am 0), .int n])).length) Slot.unset).toArray = ls at hl ⊢
  have hl : lv_has ls 2 [(0, .ref (am 0)), (1, .int n)] := hl
  refine lv_aload_n hx hb d_M_cutAfter_0 rfl (lv_at hl 0 rfl) ?_
  refine lv_iconst (v := nI 1) hx hb d_M_cutAfter_1 (by decide) ?_
  refine lv_iload_n hx hb d_M_cutAfter_2 rfl (lv_at hl 1 rfl) ?_
  refine lv_iconst (v := nI 0) hx hb d_M_cutAfter_3 (by decide) ?_
  refine lv_sipush (v := nI 300) hx hb d_M_cutAfter_4 (by decide) ?_
  refine vp_callSi (va_runS (As := [.int n, .int (nI 0), .int (nI 300)]) (rest := [.int (nI 1), .ref (am 0)]) ⟨hx, hb, hml, hown, hts⟩ (c_M_isIn l dC dI n (nI 0) (nI 300) ) (cwS 3 hts (g_S t_781 t_782 t_6 t_783) rfl rfl rfl (by decide +kernel) ⟨by decide, by decide⟩) (xR_s (va_P.sub hP [] rfl) (hK.sub [] rfl)) rfl rfl hl.1 rfl (lv_room (Nat.le_of_ble_eq_true rfl)) d_M_cutAfter_7 ⟨Nat.le_refl _, Nat.le_refl _⟩).run (fun r7 q7 => ?_)
  obtain ⟨rfl, -⟩ := q7.resolve_left (fun z => (hok) z.2)
  refine lv_if_ne (tgt := 17) hx hb d_M_cutAfter_10 (by decide) (fun c10 => ?_) (fun c10 => ?_)
  ·
    exact absurd c10 (by decide)
  ·
    refine lv_iconst (v := nI 1) hx hb d_M_cutAfter_13 (by decide) ?_
    refine lv_goto (tgt := 18) hx hb d_M_cutAfter_14 (by decide) ?_
    have hSz := hS.1
    refine va_calli (va_runV (C := R_M) (As := [.int (nI 1), .int (nI 1)]) (rest := []) ⟨hx, hb, hml, hown, hts⟩ (c_M_fails_1 l dC dI am cm s.heap.size th mw mwr mfl mact (nI 1) (-1) (nI 0) mlog mlive had (nI 0) (-1) (nI 0) (nI 0) (nI 0) pg pla sou fou (nI 1) ) (cwV 2 hts (g_V t_784 t_786 s_22 t_6 t_787) rfl rfl rfl (by decide +kernel) ⟨by decide, by decide⟩) (xP_v hP hK hD 0 rfl rfl) rfl rfl hl.1 rfl (lv_room (Nat.le_of_ble_eq_true rfl)) d_M_cutAfter_18 ⟨Nat.le_refl _, Nat.le_refl _⟩) hS (fun q _ h => xA_up hS.1 q h) (fun q h => xA_up hS.1 q h) (fun r18 u18 t H1 locs1 ht hvm q18 hB hz1 hk1 hS => ?_)
    obtain ⟨hP1, hK1, hD1⟩ := hB
    rw [ht] at hP1
    have hD : va_D (xA 9 am s.heap.size) (mw_ am cm (nI 1) mw mwr mfl mact (nI 1) (-1) (nI 0) mlog mlive had (nI 0) (-1) (nI 0) (nI 0) (nI 0) pg pla sou fou) := hD1.weaken (fun _ q _ h => xA_up hSz _ h)
    have hP : va_P (dC, dI) vwCl (mw_ am cm (nI 1) mw mwr mfl mact (nI 1) (-1) (nI 0) mlog mlive had (nI 0) (-1) (nI 0) (nI 0) (nI 0) pg pla sou fou) H1 := hP1
    generalize H1 = H at hP hS ⊢
    generalize locs1 = locs at hS ⊢
    subst q18
    refine lv_if_ne (tgt := 29) hx hb d_M_cutAfter_21 (by decide) (fun c21 => ?_) (fun c21 => ?_)
    ·
      exact W.vret hx hb hr (fun t ht hW => ⟨⟨(), rfl, by first | rfl | trivial | omega, ⟨by rw [ht]; exact hP, va_K.moved hW.alike hK, hD⟩⟩, hS.F ht⟩) hS.2.2 d_M_cutAfter_29
    ·
      exact absurd c21 (by decide)
set_option maxHeartbeats 4000000 in
set_option maxRecDepth 100000 in
theorem c_M_crash (l : Launch) (dC : Nat → ClassId) (dI : Nat → Nat → Nat) (am cm : Nat → Nat) (sz : Nat) (th : Int32) (mw mwr mfl mact : Nat → Int32) (on cut mrec : Int32) (mlog mlive had : Nat → Int32) (mser mcur mrd mwt worn : Int32) (pg : Nat → Int32) (pla sou fou : Int32)  : Met l y_M_crash w_M_crash ({ frames := 2, cells := 0, slots := 0, locals := 41 }) (xP (dC, dI) vwCl (mt cm) (mw_ am cm th mw mwr mfl mact (nI 1) (-1) (nI 0) mlog mlive had (nI 0) (-1) (nI 0) (nI 0) (nI 0) pg pla sou fou) sz [.ref (am 0)]) (va_Qv (fun (u : Nat → Int32) => ∀ i, i < 16 → u i = -1) (fun (u : Nat → Int32) (t : State) => xB (dC, dI) vwCl (mt cm) (xA 9 am sz) (mw_ am cm (nI 0) mw mwr mfl mact (nI 0) (-1) (nI 0) mlog u had (nI 0) (-1) (nI 0) (nI 0) (nI 0) pg pla sou fou) t) (xA 9 am sz)) 0 0 (xA 9 am sz) := by
  refine Met.ofW (cc := b_M_crash) (maxL := 1) (ret := none) (by decide) rfl ?_
  intro P e s m args below meth c0 s₁ B hml hv
  obtain ⟨rfl, hsz, hP, hK, hD0⟩ := hv
  have hx := B.exec
  have hb := B.bytes
  have hr := B.returns
  have hts := atoms_spec (ws := w_M_crash) B.pre
  have hown : s.vm.findClass R_M = some m.cls := findClass_of_methodNamed B.named
  have hlocks := B.notSynchronized
  subst hsz
  have hD := mw_D (sz := s.heap.size) hD0
  have hS : va_S (xA 9 am s.heap.size) s.heap s.heap [] := va_S.rf
  have hA : ∀ q : Nat, s.heap.size ≤ q → (xA 9 am s.heap.size) q := fun q h => Or.inr h
  have hl := lv_entry ([.ref (am 0)]) (n := 1) (Nat.le_of_ble_eq_true rfl)
  rw [lg_entry_eq]
  generalize (lg_sl ([.ref (am 0)]) ++ List.replicate (1 - (lg_sl ([.ref (am 0)])).length) Slot.unset).toArray = ls at hl ⊢
  have hl : lv_has ls 1 [(0, .ref (am 0))] := hl
  refine lv_aload_n hx hb d_M_crash_0 rfl (lv_at hl 0 rfl) ?_
  refine lv_iconst (v := nI 0) hx hb d_M_crash_1 (by decide) ?_
  refine va_put (D := (dC, dI)) (ci := 5) (v := .int (nI 0)) (ty := .int) (C := R_M) (T := F_M) (N := 20) hx hb hts (fun w h => List.mem_cons_of_mem _ (in_M w h)) t_M ok_M nm_M hown hK hP hD hS 0 rfl rfl 0 (by decide) (hts (.fieldLink R_M 49 R_M "thrown" "I") (List.mem_cons_of_mem _ t_712)) (fun _ h9 => h9) rfl (by decide +kernel) rfl rfl (Nat.le_of_ble_eq_true rfl) d_M_crash_2 (fun H locs hP hD hS => ?_)
  have hP : va_P (dC, dI) vwCl (mw_ am cm (nI 0) mw mwr mfl mact (nI 1) (-1) (nI 0) mlog mlive had (nI 0) (-1) (nI 0) (nI 0) (nI 0) pg pla sou fou) H := hP
  have hD : va_D (xA 9 am s.heap.size) (mw_ am cm (nI 0) mw mwr mfl mact (nI 1) (-1) (nI 0) mlog mlive had (nI 0) (-1) (nI 0) (nI 0) (nI 0) pg pla sou fou) := hD
  refine lv_aload_n hx hb d_M_crash_5 rfl (lv_at hl 0 rfl) ?_
  have hSz := hS.1
  refine va_callv (va_runV (C := R_M) (As := []) (rest := []) ⟨hx, hb, hml, hown, hts⟩ (c_M_off l dC dI am cm H.size (nI 0) mw mwr mfl mact (nI 1) (-1) (nI 0) mlog mlive had (nI 0) (-1) (nI 0) (nI 0) (nI 0) pg pla sou fou  ) (cwV 0 hts (g_V t_853 t_855 s_36 t_6 t_856) rfl rfl rfl (by decide +kernel) ⟨by decide, by decide⟩) (xP_v hP hK hD 0 rfl rfl) rfl rfl hl.1 rfl (lv_room (Nat.le_of_ble_eq_true rfl)) d_M_crash_6 ⟨Nat.le_refl _, Nat.le_refl _⟩) hS (fun q _ h => xA_up hS.1 q h) (fun q h => xA_up hS.1 q h) (fun u6 t H1 locs1 ht hvm q6 hB hz1 hk1 hS => ?_)
  obtain ⟨hP1, hK1, hD1⟩ := hB
  rw [ht] at hP1
  have hD : va_D (xA 9 am s.heap.size) (mw_ am cm (nI 0) mw mwr mfl mact (nI 0) (-1) (nI 0) mlog u6 had (nI 0) (-1) (nI 0) (nI 0) (nI 0) pg pla sou fou) := hD1.weaken (fun _ q _ h => xA_up hSz _ h)
  have hP : va_P (dC, dI) vwCl (mw_ am cm (nI 0) mw mwr mfl mact (nI 0) (-1) (nI 0) mlog u6 had (nI 0) (-1) (nI 0) (nI 0) (nI 0) pg pla sou fou) H1 := hP1
  generalize H1 = H at hP hS ⊢
  generalize locs1 = locs at hS ⊢
  exact W.vret hx hb hr (fun t ht hW => ⟨⟨u6, rfl, q6, ⟨by rw [ht]; exact hP, va_K.moved hW.alike hK, hD⟩⟩, hS.F ht⟩) hS.2.2 d_M_crash_9
set_option maxHeartbeats 4000000 in
set_option maxRecDepth 100000 in
theorem c_M_mount_f (l : Launch) (dC : Nat → ClassId) (dI : Nat → Nat → Nat) (am cm : Nat → Nat) (sz : Nat) (th : Int32) (mw mwr mfl mact : Nat → Int32) (on cut mrec : Int32) (mlog mlive had : Nat → Int32) (mser mcur mrd mwt worn : Int32) (pg : Nat → Int32) (pla sou fou : Int32)  (hmw : ∀ i, i < 512 → mw i = -1) : Met l y_M_mount w_M_mount ({ frames := 2, cells := 0, slots := 0, locals := 45 }) (xP (dC, dI) vwCl (mt cm) (mw_ am cm th mw mwr mfl mact (nI 1) (-1) (nI 0) mlog mlive had (nI 0) (-1) (nI 0) (nI 0) (nI 0) pg pla sou fou) sz [.ref (am 0)]) (va_Qi (fun r (u : Nat → Int32) => r = nI 0) (fun (u : Nat → Int32) (t : State) => xB (dC, dI) vwCl (mt cm) (xA 9 am sz) (mw_ am cm (nI 0) mw mwr mfl mact (nI 1) (-1) (nI 0) mlog u had (nI 0) (-1) (nI 0) (nI 0) (nI 0) pg pla sou fou) t) (xA 9 am sz)) 0 0 (xA 9 am sz) := by
  refine Met.ofW (cc := b_M_mount) (maxL := 6) (ret := (some (.int))) (by decide) rfl ?_
  intro P e s m args below meth c0 s₁ B hml hv
  obtain ⟨rfl, hsz, hP, hK, hD0⟩ := hv
  have hx := B.exec
  have hb := B.bytes
  have hr := B.returns
  have hts := atoms_spec (ws := w_M_mount) B.pre
  have hown : s.vm.findClass R_M = some m.cls := findClass_of_methodNamed B.named
  have hlocks := B.notSynchronized
  subst hsz
  have hD := mw_D (sz := s.heap.size) hD0
  have hS : va_S (xA 9 am s.heap.size) s.heap s.heap [] := va_S.rf
  have hA : ∀ q : Nat, s.heap.size ≤ q → (xA 9 am s.heap.size) q := fun q h => Or.inr h
  have hl := lv_entry ([.ref (am 0)]) (n := 6) (Nat.le_of_ble_eq_true rfl)
  rw [lg_entry_eq]
  generalize (lg_sl ([.ref (am 0)]) ++ List.replicate (6 - (lg_sl ([.ref (am 0)])).length) Slot.unset).toArray = ls at hl ⊢
  have hl : lv_has ls 6 [(0, .ref (am 0))] := hl
  refine lv_aload_n hx hb d_M_mount_0 rfl (lv_at hl 0 rfl) ?_
  refine lv_iconst (v := nI 0) hx hb d_M_mount_1 (by decide) ?_
  refine va_put (D := (dC, dI)) (ci := 5) (v := .int (nI 0)) (ty := .int) (C := R_M) (T := F_M) (N := 20) hx hb hts (fun w h => List.mem_cons_of_mem _ (in_M w h)) t_M ok_M nm_M hown hK hP hD hS 0 rfl rfl 0 (by decide) (hts (.fieldLink R_M 49 R_M "thrown" "I") (List.mem_cons_of_mem _ t_712)) (fun _ h9 => h9) rfl (by decide +kernel) rfl rfl (Nat.le_of_ble_eq_true rfl) d_M_mount_2 (fun H locs hP hD hS => ?_)
  have hP : va_P (dC, dI) vwCl (mw_ am cm (nI 0) mw mwr mfl mact (nI 1) (-1) (nI 0) mlog mlive had (nI 0) (-1) (nI 0) (nI 0) (nI 0) pg pla sou fou) H := hP
  have hD : va_D (xA 9 am s.heap.size) (mw_ am cm (nI 0) mw mwr mfl mact (nI 1) (-1) (nI 0) mlog mlive had (nI 0) (-1) (nI 0) (nI 0) (nI 0) pg pla sou fou) := hD
  refine lv_aload_n hx hb d_M_mount_5 rfl (lv_at hl 0 rfl) ?_
  have hSz := hS.1
  refine va_callv (va_runV (C := R_M) (As := []) (rest := []) ⟨hx, hb, hml, hown, hts⟩ (c_M_off l dC dI am cm H.size (nI 0) mw mwr mfl mact (nI 1) (-1) (nI 0) mlog mlive had (nI 0) (-1) (nI 0) (nI 0) (nI 0) pg pla sou fou  ) (cwV 0 hts (g_V t_853 t_855 s_36 t_6 t_856) rfl rfl rfl (by decide +kernel) ⟨by decide, by decide⟩) (xP_v hP hK hD 0 rfl rfl) rfl rfl hl.1 rfl (lv_room (Nat.le_of_ble_eq_true rfl)) d_M_mount_6 ⟨Nat.le_refl _, Nat.le_refl _⟩) hS (fun q _ h => xA_up hS.1 q h) (fun q h => xA_up hS.1 q h) (fun u6 t H1 locs1 ht hvm q6 hB hz1 hk1 hS => ?_)
  obtain ⟨hP1, hK1, hD1⟩ := hB
  rw [ht] at hP1
  have hD : va_D (xA 9 am s.heap.size) (mw_ am cm (nI 0) mw mwr mfl mact (nI 0) (-1) (nI 0) mlog u6 had (nI 0) (-1) (nI 0) (nI 0) (nI 0) pg pla sou fou) := hD1.weaken (fun _ q _ h => xA_up hSz _ h)
  have hP : va_P (dC, dI) vwCl (mw_ am cm (nI 0) mw mwr mfl mact (nI 0) (-1) (nI 0) mlog u6 had (nI 0) (-1) (nI 0) (nI 0) (nI 0) pg pla sou fou) H1 := hP1
  generalize H1 = H at hP hS ⊢
  generalize locs1 = locs at hS ⊢
  refine lv_aload_n hx hb d_M_mount_9 rfl (lv_at hl 0 rfl) ?_
  refine lv_iconst (v := nI 1) hx hb d_M_mount_10 (by decide) ?_
  refine va_put (D := (dC, dI)) (ci := 5) (v := .int (nI 1)) (ty := .boolean) (C := R_M) (T := F_M) (N := 20) hx hb hts (fun w h => List.mem_cons_of_mem _ (in_M w h)) t_M ok_M nm_M hown hK hP hD hS 0 rfl rfl 5 (by decide) (hts (.fieldLink R_M 23 R_M "on" "Z") (List.mem_cons_of_mem _ t_717)) (fun _ h9 => h9) rfl (by decide +kernel) (by first | rfl | decide | assumption) rfl (Nat.le_of_ble_eq_true rfl) d_M_mount_11 (fun H locs hP hD hS => ?_)
  have hP : va_P (dC, dI) vwCl (mw_ am cm (nI 0) mw mwr mfl mact (nI 1) (-1) (nI 0) mlog u6 had (nI 0) (-1) (nI 0) (nI 0) (nI 0) pg pla sou fou) H := hP
  have hD : va_D (xA 9 am s.heap.size) (mw_ am cm (nI 0) mw mwr mfl mact (nI 1) (-1) (nI 0) mlog u6 had (nI 0) (-1) (nI 0) (nI 0) (nI 0) pg pla sou fou) := hD
  refine lv_aload_n hx hb d_M_mount_14 rfl (lv_at hl 0 rfl) ?_
  refine lv_iconst (v := (-1)) hx hb d_M_mount_15 (by decide) ?_
  refine vp_callSi (va_runV (C := R_M) (As := [.int (-1)]) (rest := []) ⟨hx, hb, hml, hown, hts⟩ (c_M_latest_f l dC dI am cm (nI 0) mw mwr mfl mact (nI 1) (-1) (nI 0) mlog u6 had (nI 0) (-1) (nI 0) (nI 0) (nI 0) pg pla sou fou (-1) (hmw)) (cwV 1 hts (g_V t_966 t_968 s_51 t_6 t_969) rfl rfl rfl (by decide +kernel) ⟨by decide, by decide⟩) (xR_v hP hK 0 rfl rfl) rfl rfl hl.1 rfl (lv_room (Nat.le_of_ble_eq_true rfl)) d_M_mount_16 ⟨Nat.le_refl _, Nat.le_refl _⟩).run (fun r16 q16 => ?_)
  subst q16
  refine lv_istore_n hx hb d_M_mount_19 rfl hl (by decide) rfl (fun ls hl => ?_)
  have hl : lv_has ls 6 [(1, .int (-1)), (0, .ref (am 0))] := hl
  refine lv_aload_n hx hb d_M_mount_20 rfl (lv_at hl 1 rfl) ?_
  refine lv_iload_n hx hb d_M_mount_21 rfl (lv_at hl 0 rfl) ?_
  refine lv_if_ge (tgt := 29) hx hb d_M_mount_22 (by decide) (fun c22 => ?_) (fun c22 => ?_)
  ·
    exact absurd c22 (by decide)
  ·
    refine lv_iconst (v := nI 0) hx hb d_M_mount_25 (by decide) ?_
    refine lv_goto (tgt := 40) hx hb d_M_mount_26 (by decide) ?_
    refine va_put (D := (dC, dI)) (ci := 5) (v := .int (nI 0)) (ty := .int) (C := R_M) (T := F_M) (N := 20) hx hb hts (fun w h => List.mem_cons_of_mem _ (in_M w h)) t_M ok_M nm_M hown hK hP hD hS 0 rfl rfl 11 (by decide) (hts (.fieldLink R_M 55 R_M "serial" "I") (List.mem_cons_of_mem _ t_723)) (fun _ h9 => h9) rfl (by decide +kernel) rfl rfl (Nat.le_of_ble_eq_true rfl) d_M_mount_40 (fun H locs hP hD hS => ?_)
    have hP : va_P (dC, dI) vwCl (mw_ am cm (nI 0) mw mwr mfl mact (nI 1) (-1) (nI 0) mlog u6 had (nI 0) (-1) (nI 0) (nI 0) (nI 0) pg pla sou fou) H := hP
    have hD : va_D (xA 9 am s.heap.size) (mw_ am cm (nI 0) mw mwr mfl mact (nI 1) (-1) (nI 0) mlog u6 had (nI 0) (-1) (nI 0) (nI 0) (nI 0) pg pla sou fou) := hD
    refine lv_aload_n hx hb d_M_mount_43 rfl (lv_at hl 1 rfl) ?_
    refine lv_iload_n hx hb d_M_mount_44 rfl (lv_at hl 0 rfl) ?_
    refine lv_if_ge (tgt := 52) hx hb d_M_mount_45 (by decide) (fun c45 => ?_) (fun c45 => ?_)
    ·
      exact absurd c45 (by decide)
    ·
      refine lv_iconst (v := (-1)) hx hb d_M_mount_48 (by decide) ?_
      refine lv_goto (tgt := 55) hx hb d_M_mount_49 (by decide) ?_
      refine va_put (D := (dC, dI)) (ci := 5) (v := .int (-1)) (ty := .int) (C := R_M) (T := F_M) (N := 20) hx hb hts (fun w h => List.mem_cons_of_mem _ (in_M w h)) t_M ok_M nm_M hown hK hP hD hS 0 rfl rfl 12 (by decide) (hts (.fieldLink R_M 40 R_M "cursor" "I") (List.mem_cons_of_mem _ t_724)) (fun _ h9 => h9) rfl (by decide +kernel) rfl rfl (Nat.le_of_ble_eq_true rfl) d_M_mount_55 (fun H locs hP hD hS => ?_)
      have hP : va_P (dC, dI) vwCl (mw_ am cm (nI 0) mw mwr mfl mact (nI 1) (-1) (nI 0) mlog u6 had (nI 0) (-1) (nI 0) (nI 0) (nI 0) pg pla sou fou) H := hP
      have hD : va_D (xA 9 am s.heap.size) (mw_ am cm (nI 0) mw mwr mfl mact (nI 1) (-1) (nI 0) mlog u6 had (nI 0) (-1) (nI 0) (nI 0) (nI 0) pg pla sou fou) := hD
      refine lv_iconst (v := nI 1) hx hb d_M_mount_58 (by decide) ?_
      refine lv_istore_n hx hb d_M_mount_59 rfl hl (by decide) rfl (fun ls hl => ?_)
      have hl : lv_has ls 6 [(2, .int (nI 1)), (1, .int (-1)), (0, .ref (am 0))] := hl
      refine lv_iconst (v := nI 0) hx hb d_M_mount_60 (by decide) ?_
      refine lv_istore_n hx hb d_M_mount_61 rfl hl (by decide) rfl (fun ls hl => ?_)
      have hl : lv_has ls 6 [(3, .int (nI 0)), (2, .int (nI 1)), (1, .int (-1)), (0, .ref (am 0))] := hl
      refine lv_iload_n hx hb d_M_mount_62 rfl (lv_at hl 0 rfl) ?_
      refine lv_bipush (v := nI 16) hx hb d_M_mount_63 (by decide) ?_
      refine lv_icmp_ge (tgt := 199) hx hb d_M_mount_65 (by decide) (fun c65 => ?_) (fun c65 => ?_)
      ·
        exact absurd c65 (by decide)
      ·
        refine lv_iload_n hx hb d_M_mount_68 rfl (lv_at hl 1 rfl) ?_
        refine lv_if_eq (tgt := 199) hx hb d_M_mount_69 (by decide) (fun c69 => ?_) (fun c69 => ?_)
        ·
          exact absurd c69 (by decide)
        ·
          refine lv_aload_n hx hb d_M_mount_72 rfl (lv_at hl 3 rfl) ?_
          refine lv_iload_n hx hb d_M_mount_73 rfl (lv_at hl 0 rfl) ?_
          refine vp_callSi (va_runV (C := R_M) (As := [.int (nI 0)]) (rest := []) ⟨hx, hb, hml, hown, hts⟩ (c_M_latest_f l dC dI am cm (nI 0) mw mwr mfl mact (nI 1) (-1) (nI 0) mlog u6 had (nI 0) (-1) (nI 0) (nI 0) (nI 0) pg pla sou fou (nI 0) (hmw)) (cwV 1 hts (g_V t_966 t_968 s_51 t_6 t_969) rfl rfl rfl (by decide +kernel) ⟨by decide, by decide⟩) (xR_v hP hK 0 rfl rfl) rfl rfl hl.1 rfl (lv_room (Nat.le_of_ble_eq_true rfl)) d_M_mount_74 ⟨Nat.le_refl _, Nat.le_refl _⟩).run (fun r74 q74 => ?_)
          subst q74
          refine lv_istore hx hb d_M_mount_77 hl (by decide) rfl (fun ls hl => ?_)
          have hl : lv_has ls 6 [(4, .int (-1)), (3, .int (nI 0)), (2, .int (nI 1)), (1, .int (-1)), (0, .ref (am 0))] := hl
          refine lv_iload hx hb d_M_mount_79 (lv_at hl 0 rfl) ?_
          refine lv_if_ge (tgt := 87) hx hb d_M_mount_81 (by decide) (fun c81 => ?_) (fun c81 => ?_)
          ·
            exact absurd c81 (by decide)
          ·
            refine lv_goto (tgt := 199) hx hb d_M_mount_84 (by decide) ?_
            refine lv_aload_n hx hb d_M_mount_199 rfl (lv_at hl 4 rfl) ?_
            refine vp_callSi (va_runV (C := R_M) (As := []) (rest := []) ⟨hx, hb, hml, hown, hts⟩ (c_M_tickets_f l dC dI am cm (nI 0) mw mwr mfl mact (nI 1) (-1) (nI 0) mlog u6 had (nI 0) (-1) (nI 0) (nI 0) (nI 0) pg pla sou fou  ) (cwV 0 hts (g_V t_865 t_867 s_39 t_6 t_868) rfl rfl rfl (by decide +kernel) ⟨by decide, by decide⟩) (xR_v hP hK 0 rfl rfl) rfl rfl hl.1 rfl (lv_room (Nat.le_of_ble_eq_true rfl)) d_M_mount_200 ⟨Nat.le_refl _, Nat.le_refl _⟩).run (fun r200 q200 => ?_)
            subst q200
            exact W.iret (v := nI 0) hx hb hr (fun t ht hW => ⟨⟨nI 0, u6, rfl, by first | rfl | trivial | omega, ⟨by rw [ht]; exact hP, va_K.moved hW.alike hK, hD⟩⟩, hS.F ht⟩) hS.2.2 d_M_mount_203
set_option maxHeartbeats 4000000 in
set_option maxRecDepth 100000 in
theorem c_M_wearOf_ok (l : Launch) (dC : Nat → ClassId) (dI : Nat → Nat → Nat) (am cm : Nat → Nat) (sz : Nat) (th : Int32) (mw mwr mfl mact : Nat → Int32) (on cut mrec : Int32) (mlog mlive had : Nat → Int32) (mser mcur mrd mwt worn : Int32) (pg : Nat → Int32) (pla sou fou : Int32) (j : Nat) (hj : j < 8) : Met l y_M_wearOf w_M_wearOf ({ frames := 1, cells := 0, slots := 0, locals := 22 }) (xP (dC, dI) vwCl (mt cm) (mw_ am cm th mw mwr mfl mact (nI 1) (-1) (nI 0) mlog mlive had (nI 0) (-1) (nI 0) (nI 0) (nI 0) pg pla sou fou) sz [.ref (am 0), .int (nI j)]) (va_Qi (fun r (u : Unit) => r = mwr j) (fun (u : Unit) (t : State) => xB (dC, dI) vwCl (mt cm) (xA 9 am sz) (mw_ am cm (nI 0) mw mwr mfl mact (nI 1) (-1) (nI 0) mlog mlive had (nI 0) (-1) (nI 0) (nI 0) (nI 0) pg pla sou fou) t) (xA 9 am sz)) 0 0 (xA 9 am sz) := by
  refine Met.ofW (cc := b_M_wearOf) (maxL := 2) (ret := (some (.int))) (by decide) rfl ?_
  intro P e s m args below meth c0 s₁ B hml hv
  obtain ⟨rfl, hsz, hP, hK, hD0⟩ := hv
  have hx := B.exec
  have hb := B.bytes
  have hr := B.returns
  have hts := atoms_spec (ws := w_M_wearOf) B.pre
  have hown : s.vm.findClass R_M = some m.cls := findClass_of_methodNamed B.named
  have hlocks := B.notSynchronized
  subst hsz
  have hD := mw_D (sz := s.heap.size) hD0
  have hS : va_S (xA 9 am s.heap.size) s.heap s.heap [] := va_S.rf
  have hA : ∀ q : Nat, s.heap.size ≤ q → (xA 9 am s.heap.size) q := fun q h => Or.inr h
  have hl := lv_entry ([.ref (am 0), .int (nI j)]) (n := 2) (Nat.le_of_ble_eq_true rfl)
  rw [lg_entry_eq]
  generalize (lg_sl ([.ref (am 0), .int (nI j)]) ++ List.replicate (2 - (lg_sl ([.ref (am 0), .int (nI j)])).length) Slot.unset).toArray = ls at hl ⊢
  have hl : lv_has ls 2 [(0, .ref (am 0)), (1, .int (nI j))] := hl
  refine lv_aload_n hx hb d_M_wearOf_0 rfl (lv_at hl 0 rfl) ?_
  refine lv_iconst (v := nI 1) hx hb d_M_wearOf_1 (by decide) ?_
  refine lv_iload_n hx hb d_M_wearOf_2 rfl (lv_at hl 1 rfl) ?_
  refine lv_iconst (v := nI 0) hx hb d_M_wearOf_3 (by decide) ?_
  refine lv_bipush (v := nI 7) hx hb d_M_wearOf_4 (by decide) ?_
  refine vp_callSi (va_runS (As := [.int (nI j), .int (nI 0), .int (nI 7)]) (rest := [.int (nI 1), .ref (am 0)]) ⟨hx, hb, hml, hown, hts⟩ (c_M_isIn l dC dI (nI j) (nI 0) (nI 7) ) (cwS 3 hts (g_S t_781 t_782 t_6 t_783) rfl rfl rfl (by decide +kernel) ⟨by decide, by decide⟩) (xR_s (va_P.sub hP [] rfl) (hK.sub [] rfl)) rfl rfl hl.1 rfl (lv_room (Nat.le_of_ble_eq_true rfl)) d_M_wearOf_6 ⟨Nat.le_refl _, Nat.le_refl _⟩).run (fun r6 q6 => ?_)
  obtain ⟨rfl, -⟩ := q6.resolve_right (fun z => z.2 (⟨(nI_leI (by decide) (by omega)).mpr (Nat.zero_le _), (nI_leI (by omega) (by decide)).mpr (by omega)⟩))
  refine lv_if_ne (tgt := 16) hx hb d_M_wearOf_9 (by decide) (fun c9 => ?_) (fun c9 => ?_)
  ·
    refine lv_iconst (v := nI 0) hx hb d_M_wearOf_16 (by decide) ?_
    have hSz := hS.1
    refine va_calli (va_runV (C := R_M) (As := [.int (nI 1), .int (nI 0)]) (rest := []) ⟨hx, hb, hml, hown, hts⟩ (c_M_fails_0 l dC dI am cm s.heap.size th mw mwr mfl mact (nI 1) (-1) (nI 0) mlog mlive had (nI 0) (-1) (nI 0) (nI 0) (nI 0) pg pla sou fou (nI 1) ) (cwV 2 hts (g_V t_784 t_786 s_22 t_6 t_787) rfl rfl rfl (by decide +kernel) ⟨by decide, by decide⟩) (xP_v hP hK hD 0 rfl rfl) rfl rfl hl.1 rfl (lv_room (Nat.le_of_ble_eq_true rfl)) d_M_wearOf_17 ⟨Nat.le_refl _, Nat.le_refl _⟩) hS (fun q _ h => xA_up hS.1 q h) (fun q h => xA_up hS.1 q h) (fun r17 u17 t H1 locs1 ht hvm q17 hB hz1 hk1 hS => ?_)
    obtain ⟨hP1, hK1, hD1⟩ := hB
    rw [ht] at hP1
    have hD : va_D (xA 9 am s.heap.size) (mw_ am cm (nI 0) mw mwr mfl mact (nI 1) (-1) (nI 0) mlog mlive had (nI 0) (-1) (nI 0) (nI 0) (nI 0) pg pla sou fou) := hD1.weaken (fun _ q _ h => xA_up hSz _ h)
    have hP : va_P (dC, dI) vwCl (mw_ am cm (nI 0) mw mwr mfl mact (nI 1) (-1) (nI 0) mlog mlive had (nI 0) (-1) (nI 0) (nI 0) (nI 0) pg pla sou fou) H1 := hP1
    generalize H1 = H at hP hS ⊢
    generalize locs1 = locs at hS ⊢
    subst q17
    refine lv_if_eq (tgt := 27) hx hb d_M_wearOf_20 (by decide) (fun c20 => ?_) (fun c20 => ?_)
    ·
      refine lv_aload_n hx hb d_M_wearOf_27 rfl (lv_at hl 0 rfl) ?_
      refine va_get (D := (dC, dI)) (ci := 5) (v := .ref (am 2)) (C := R_M) (T := F_M) (N := 20) hx hb hts (fun w h => List.mem_cons_of_mem _ (in_M w h)) hown hK hP 0 rfl rfl 2 (by decide) (hts (.fieldLink R_M 13 R_M "wear" "[I") (List.mem_cons_of_mem _ t_714)) (fun _ h9 => h9) rfl d_M_wearOf_28 ?_
      refine lv_iload_n hx hb d_M_wearOf_31 rfl (lv_at hl 1 rfl) ?_
      refine va_iald hx hb hK hP 2 1 rfl rfl (vp_in_nI (by omega) (by decide)) d_M_wearOf_32 ?_
      refine tp_i (y := mwr j) (by rw [nI_clamp (by omega)]) ?_
      exact W.iret (v := mwr j) hx hb hr (fun t ht hW => ⟨⟨mwr j, (), rfl, by first | rfl | trivial | omega, ⟨by rw [ht]; exact hP, va_K.moved hW.alike hK, hD⟩⟩, hS.F ht⟩) hS.2.2 d_M_wearOf_33
    ·
      exact absurd c20 (by decide)
  ·
    exact absurd c9 (by decide)
set_option maxHeartbeats 4000000 in
set_option maxRecDepth 100000 in
theorem c_M_wearOf_bad (l : Launch) (dC : Nat → ClassId) (dI : Nat → Nat → Nat) (am cm : Nat → Nat) (sz : Nat) (th : Int32) (mw mwr mfl mact : Nat → Int32) (on cut mrec : Int32) (mlog mlive had : Nat → Int32) (mser mcur mrd mwt worn : Int32) (pg : Nat → Int32) (pla sou fou : Int32) (b : Int32) (hok : ¬ (nI 0 ≤ b ∧ b ≤ nI 7)) : Met l y_M_wearOf w_M_wearOf ({ frames := 1, cells := 0, slots := 0, locals := 22 }) (xP (dC, dI) vwCl (mt cm) (mw_ am cm th mw mwr mfl mact (nI 1) (-1) (nI 0) mlog mlive had (nI 0) (-1) (nI 0) (nI 0) (nI 0) pg pla sou fou) sz [.ref (am 0), .int b]) (va_Qi (fun r (u : Unit) => r = nI 0) (fun (u : Unit) (t : State) => xB (dC, dI) vwCl (mt cm) (xA 9 am sz) (mw_ am cm (nI 1) mw mwr mfl mact (nI 1) (-1) (nI 0) mlog mlive had (nI 0) (-1) (nI 0) (nI 0) (nI 0) pg pla sou fou) t) (xA 9 am sz)) 0 0 (xA 9 am sz) := by
  refine Met.ofW (cc := b_M_wearOf) (maxL := 2) (ret := (some (.int))) (by decide) rfl ?_
  intro P e s m args below meth c0 s₁ B hml hv
  obtain ⟨rfl, hsz, hP, hK, hD0⟩ := hv
  have hx := B.exec
  have hb := B.bytes
  have hr := B.returns
  have hts := atoms_spec (ws := w_M_wearOf) B.pre
  have hown : s.vm.findClass R_M = some m.cls := findClass_of_methodNamed B.named
  have hlocks := B.notSynchronized
  subst hsz
  have hD := mw_D (sz := s.heap.size) hD0
  have hS : va_S (xA 9 am s.heap.size) s.heap s.heap [] := va_S.rf
  have hA : ∀ q : Nat, s.heap.size ≤ q → (xA 9 am s.heap.size) q := fun q h => Or.inr h
  have hl := lv_entry ([.ref (am 0), .int b]) (n := 2) (Nat.le_of_ble_eq_true rfl)
  rw [lg_entry_eq]
  generalize (lg_sl ([.ref (am 0), .int b]) ++ List.replicate (2 - (lg_sl ([.ref (am 0), .int b])).length) Slot.unset).toArray = ls at hl ⊢
  have hl : lv_has ls 2 [(0, .ref (am 0)), (1, .int b)] := hl
  refine lv_aload_n hx hb d_M_wearOf_0 rfl (lv_at hl 0 rfl) ?_
  refine lv_iconst (v := nI 1) hx hb d_M_wearOf_1 (by decide) ?_
  refine lv_iload_n hx hb d_M_wearOf_2 rfl (lv_at hl 1 rfl) ?_
  refine lv_iconst (v := nI 0) hx hb d_M_wearOf_3 (by decide) ?_
  refine lv_bipush (v := nI 7) hx hb d_M_wearOf_4 (by decide) ?_
  refine vp_callSi (va_runS (As := [.int b, .int (nI 0), .int (nI 7)]) (rest := [.int (nI 1), .ref (am 0)]) ⟨hx, hb, hml, hown, hts⟩ (c_M_isIn l dC dI b (nI 0) (nI 7) ) (cwS 3 hts (g_S t_781 t_782 t_6 t_783) rfl rfl rfl (by decide +kernel) ⟨by decide, by decide⟩) (xR_s (va_P.sub hP [] rfl) (hK.sub [] rfl)) rfl rfl hl.1 rfl (lv_room (Nat.le_of_ble_eq_true rfl)) d_M_wearOf_6 ⟨Nat.le_refl _, Nat.le_refl _⟩).run (fun r6 q6 => ?_)
  obtain ⟨rfl, -⟩ := q6.resolve_left (fun z => (hok) z.2)
  refine lv_if_ne (tgt := 16) hx hb d_M_wearOf_9 (by decide) (fun c9 => ?_) (fun c9 => ?_)
  ·
    exact absurd c9 (by decide)
  ·
    refine lv_iconst (v := nI 1) hx hb d_M_wearOf_12 (by decide) ?_
    refine lv_goto (tgt := 17) hx hb d_M_wearOf_13 (by decide) ?_
    have hSz := hS.1
    refine va_calli (va_runV (C := R_M) (As := [.int (nI 1), .int (nI 1)]) (rest := []) ⟨hx, hb, hml, hown, hts⟩ (c_M_fails_1 l dC dI am cm s.heap.size th mw mwr mfl mact (nI 1) (-1) (nI 0) mlog mlive had (nI 0) (-1) (nI 0) (nI 0) (nI 0) pg pla sou fou (nI 1) ) (cwV 2 hts (g_V t_784 t_786 s_22 t_6 t_787) rfl rfl rfl (by decide +kernel) ⟨by decide, by decide⟩) (xP_v hP hK hD 0 rfl rfl) rfl rfl hl.1 rfl (lv_room (Nat.le_of_ble_eq_true rfl)) d_M_wearOf_17 ⟨Nat.le_refl _, Nat.le_refl _⟩) hS (fun q _ h => xA_up hS.1 q h) (fun q h => xA_up hS.1 q h) (fun r17 u17 t H1 locs1 ht hvm q17 hB hz1 hk1 hS => ?_)
    obtain ⟨hP1, hK1, hD1⟩ := hB
    rw [ht] at hP1
    have hD : va_D (xA 9 am s.heap.size) (mw_ am cm (nI 1) mw mwr mfl mact (nI 1) (-1) (nI 0) mlog mlive had (nI 0) (-1) (nI 0) (nI 0) (nI 0) pg pla sou fou) := hD1.weaken (fun _ q _ h => xA_up hSz _ h)
    have hP : va_P (dC, dI) vwCl (mw_ am cm (nI 1) mw mwr mfl mact (nI 1) (-1) (nI 0) mlog mlive had (nI 0) (-1) (nI 0) (nI 0) (nI 0) pg pla sou fou) H1 := hP1
    generalize H1 = H at hP hS ⊢
    generalize locs1 = locs at hS ⊢
    subst q17
    refine lv_if_eq (tgt := 27) hx hb d_M_wearOf_20 (by decide) (fun c20 => ?_) (fun c20 => ?_)
    ·
      exact absurd c20 (by decide)
    ·
      refine lv_iconst (v := nI 0) hx hb d_M_wearOf_23 (by decide) ?_
      refine lv_goto (tgt := 33) hx hb d_M_wearOf_24 (by decide) ?_
      exact W.iret (v := nI 0) hx hb hr (fun t ht hW => ⟨⟨nI 0, (), rfl, by first | rfl | trivial | omega, ⟨by rw [ht]; exact hP, va_K.moved hW.alike hK, hD⟩⟩, hS.F ht⟩) hS.2.2 d_M_wearOf_33
set_option maxHeartbeats 4000000 in
set_option maxRecDepth 100000 in
theorem c_M_failBlock_ok (l : Launch) (dC : Nat → ClassId) (dI : Nat → Nat → Nat) (am cm : Nat → Nat) (sz : Nat) (th : Int32) (mw mwr mfl mact : Nat → Int32) (on cut mrec : Int32) (mlog mlive had : Nat → Int32) (mser mcur mrd mwt worn : Int32) (pg : Nat → Int32) (pla sou fou : Int32) (j : Nat) (hj : j < 8) : Met l y_M_failBlock w_M_failBlock ({ frames := 1, cells := 0, slots := 0, locals := 22 }) (xP (dC, dI) vwCl (mt cm) (mw_ am cm th mw mwr mfl mact (nI 1) (-1) (nI 0) mlog mlive had (nI 0) (-1) (nI 0) (nI 0) (nI 0) pg pla sou fou) sz [.ref (am 0), .int (nI j)]) (va_Qv (fun (u : Unit) => True) (fun (u : Unit) (t : State) => xB (dC, dI) vwCl (mt cm) (xA 9 am sz) (mw_ am cm (nI 0) mw mwr (upd mfl j (vp_nar .boolean (nI 1))) mact (nI 1) (-1) (nI 0) mlog mlive had (nI 0) (-1) (nI 0) (nI 0) (nI 0) pg pla sou fou) t) (xA 9 am sz)) 0 0 (xA 9 am sz) := by
  refine Met.ofW (cc := b_M_failBlock) (maxL := 2) (ret := none) (by decide) rfl ?_
  intro P e s m args below meth c0 s₁ B hml hv
  obtain ⟨rfl, hsz, hP, hK, hD0⟩ := hv
  have hx := B.exec
  have hb := B.bytes
  have hr := B.returns
  have hts := atoms_spec (ws := w_M_failBlock) B.pre
  have hown : s.vm.findClass R_M = some m.cls := findClass_of_methodNamed B.named
  have hlocks := B.notSynchronized
  subst hsz
  have hD := mw_D (sz := s.heap.size) hD0
  have hS : va_S (xA 9 am s.heap.size) s.heap s.heap [] := va_S.rf
  have hA : ∀ q : Nat, s.heap.size ≤ q → (xA 9 am s.heap.size) q := fun q h => Or.inr h
  have hl := lv_entry ([.ref (am 0), .int (nI j)]) (n := 2) (Nat.le_of_ble_eq_true rfl)
  rw [lg_entry_eq]
  generalize (lg_sl ([.ref (am 0), .int (nI j)]) ++ List.replicate (2 - (lg_sl ([.ref (am 0), .int (nI j)])).length) Slot.unset).toArray = ls at hl ⊢
  have hl : lv_has ls 2 [(0, .ref (am 0)), (1, .int (nI j))] := hl
  refine lv_aload_n hx hb d_M_failBlock_0 rfl (lv_at hl 0 rfl) ?_
  refine lv_iconst (v := nI 1) hx hb d_M_failBlock_1 (by decide) ?_
  refine lv_iload_n hx hb d_M_failBlock_2 rfl (lv_at hl 1 rfl) ?_
  refine lv_iconst (v := nI 0) hx hb d_M_failBlock_3 (by decide) ?_
  refine lv_bipush (v := nI 7) hx hb d_M_failBlock_4 (by decide) ?_
  refine vp_callSi (va_runS (As := [.int (nI j), .int (nI 0), .int (nI 7)]) (rest := [.int (nI 1), .ref (am 0)]) ⟨hx, hb, hml, hown, hts⟩ (c_M_isIn l dC dI (nI j) (nI 0) (nI 7) ) (cwS 3 hts (g_S t_781 t_782 t_6 t_783) rfl rfl rfl (by decide +kernel) ⟨by decide, by decide⟩) (xR_s (va_P.sub hP [] rfl) (hK.sub [] rfl)) rfl rfl hl.1 rfl (lv_room (Nat.le_of_ble_eq_true rfl)) d_M_failBlock_6 ⟨Nat.le_refl _, Nat.le_refl _⟩).run (fun r6 q6 => ?_)
  obtain ⟨rfl, -⟩ := q6.resolve_right (fun z => z.2 (⟨(nI_leI (by decide) (by omega)).mpr (Nat.zero_le _), (nI_leI (by omega) (by decide)).mpr (by omega)⟩))
  refine lv_if_ne (tgt := 16) hx hb d_M_failBlock_9 (by decide) (fun c9 => ?_) (fun c9 => ?_)
  ·
    refine lv_iconst (v := nI 0) hx hb d_M_failBlock_16 (by decide) ?_
    have hSz := hS.1
    refine va_calli (va_runV (C := R_M) (As := [.int (nI 1), .int (nI 0)]) (rest := []) ⟨hx, hb, hml, hown, hts⟩ (c_M_fails_0 l dC dI am cm s.heap.size th mw mwr mfl mact (nI 1) (-1) (nI 0) mlog mlive had (nI 0) (-1) (nI 0) (nI 0) (nI 0) pg pla sou fou (nI 1) ) (cwV 2 hts (g_V t_784 t_786 s_22 t_6 t_787) rfl rfl rfl (by decide +kernel) ⟨by decide, by decide⟩) (xP_v hP hK hD 0 rfl rfl) rfl rfl hl.1 rfl (lv_room (Nat.le_of_ble_eq_true rfl)) d_M_failBlock_17 ⟨Nat.le_refl _, Nat.le_refl _⟩) hS (fun q _ h => xA_up hS.1 q h) (fun q h => xA_up hS.1 q h) (fun r17 u17 t H1 locs1 ht hvm q17 hB hz1 hk1 hS => ?_)
    obtain ⟨hP1, hK1, hD1⟩ := hB
    rw [ht] at hP1
    have hD : va_D (xA 9 am s.heap.size) (mw_ am cm (nI 0) mw mwr mfl mact (nI 1) (-1) (nI 0) mlog mlive had (nI 0) (-1) (nI 0) (nI 0) (nI 0) pg pla sou fou) := hD1.weaken (fun _ q _ h => xA_up hSz _ h)
    have hP : va_P (dC, dI) vwCl (mw_ am cm (nI 0) mw mwr mfl mact (nI 1) (-1) (nI 0) mlog mlive had (nI 0) (-1) (nI 0) (nI 0) (nI 0) pg pla sou fou) H1 := hP1
    generalize H1 = H at hP hS ⊢
    generalize locs1 = locs at hS ⊢
    subst q17
    refine lv_if_ne (tgt := 30) hx hb d_M_failBlock_20 (by decide) (fun c20 => ?_) (fun c20 => ?_)
    ·
      exact absurd c20 (by decide)
    ·
      refine lv_aload_n hx hb d_M_failBlock_23 rfl (lv_at hl 0 rfl) ?_
      refine va_get (D := (dC, dI)) (ci := 5) (v := .ref (am 3)) (C := R_M) (T := F_M) (N := 20) hx hb hts (fun w h => List.mem_cons_of_mem _ (in_M w h)) hown hK hP 0 rfl rfl 3 (by decide) (hts (.fieldLink R_M 16 R_M "failed" "[Z") (List.mem_cons_of_mem _ t_715)) (fun _ h9 => h9) rfl d_M_failBlock_24 ?_
      refine lv_iload_n hx hb d_M_failBlock_27 rfl (lv_at hl 1 rfl) ?_
      refine lv_iconst (v := nI 1) hx hb d_M_failBlock_28 (by decide) ?_
      refine va_zast hx hb hK hP hD hS 3 2 rfl rfl (vp_in_nI (by omega) (by decide)) d_M_failBlock_29 (fun H locs hP hD hS => ?_)
      rw [nI_clamp (by omega)] at hP hD
      have hP : va_P (dC, dI) vwCl (mw_ am cm (nI 0) mw mwr (upd mfl j (vp_nar .boolean (nI 1))) mact (nI 1) (-1) (nI 0) mlog mlive had (nI 0) (-1) (nI 0) (nI 0) (nI 0) pg pla sou fou) H := hP
      have hD : va_D (xA 9 am s.heap.size) (mw_ am cm (nI 0) mw mwr (upd mfl j (vp_nar .boolean (nI 1))) mact (nI 1) (-1) (nI 0) mlog mlive had (nI 0) (-1) (nI 0) (nI 0) (nI 0) pg pla sou fou) := hD
      exact W.vret hx hb hr (fun t ht hW => ⟨⟨(), rfl, by first | rfl | trivial | omega, ⟨by rw [ht]; exact hP, va_K.moved hW.alike hK, hD⟩⟩, hS.F ht⟩) hS.2.2 d_M_failBlock_30
  ·
    exact absurd c9 (by decide)
set_option maxHeartbeats 4000000 in
set_option maxRecDepth 100000 in
theorem c_M_failBlock_bad (l : Launch) (dC : Nat → ClassId) (dI : Nat → Nat → Nat) (am cm : Nat → Nat) (sz : Nat) (th : Int32) (mw mwr mfl mact : Nat → Int32) (on cut mrec : Int32) (mlog mlive had : Nat → Int32) (mser mcur mrd mwt worn : Int32) (pg : Nat → Int32) (pla sou fou : Int32) (b : Int32) (hok : ¬ (nI 0 ≤ b ∧ b ≤ nI 7)) : Met l y_M_failBlock w_M_failBlock ({ frames := 1, cells := 0, slots := 0, locals := 22 }) (xP (dC, dI) vwCl (mt cm) (mw_ am cm th mw mwr mfl mact (nI 1) (-1) (nI 0) mlog mlive had (nI 0) (-1) (nI 0) (nI 0) (nI 0) pg pla sou fou) sz [.ref (am 0), .int b]) (va_Qv (fun (u : Unit) => True) (fun (u : Unit) (t : State) => xB (dC, dI) vwCl (mt cm) (xA 9 am sz) (mw_ am cm (nI 1) mw mwr mfl mact (nI 1) (-1) (nI 0) mlog mlive had (nI 0) (-1) (nI 0) (nI 0) (nI 0) pg pla sou fou) t) (xA 9 am sz)) 0 0 (xA 9 am sz) := by
  refine Met.ofW (cc := b_M_failBlock) (maxL := 2) (ret := none) (by decide) rfl ?_
  intro P e s m args below meth c0 s₁ B hml hv
  obtain ⟨rfl, hsz, hP, hK, hD0⟩ := hv
  have hx := B.exec
  have hb := B.bytes
  have hr := B.returns
  have hts := atoms_spec (ws := w_M_failBlock) B.pre
  have hown : s.vm.findClass R_M = some m.cls := findClass_of_methodNamed B.named
  have hlocks := B.notSynchronized
  subst hsz
  have hD := mw_D (sz := s.heap.size) hD0
  have hS : va_S (xA 9 am s.heap.size) s.heap s.heap [] := va_S.rf
  have hA : ∀ q : Nat, s.heap.size ≤ q → (xA 9 am s.heap.size) q := fun q h => Or.inr h
  have hl := lv_entry ([.ref (am 0), .int b]) (n := 2) (Nat.le_of_ble_eq_true rfl)
  rw [lg_entry_eq]
  generalize (lg_sl ([.ref (am 0), .int b]) ++ List.replicate (2 - (lg_sl ([.ref (am 0), .int b])).length) Slot.unset).toArray = ls at hl ⊢
  have hl : lv_has ls 2 [(0, .ref (am 0)), (1, .int b)] := hl
  refine lv_aload_n hx hb d_M_failBlock_0 rfl (lv_at hl 0 rfl) ?_
  refine lv_iconst (v := nI 1) hx hb d_M_failBlock_1 (by decide) ?_
  refine lv_iload_n hx hb d_M_failBlock_2 rfl (lv_at hl 1 rfl) ?_
  refine lv_iconst (v := nI 0) hx hb d_M_failBlock_3 (by decide) ?_
  refine lv_bipush (v := nI 7) hx hb d_M_failBlock_4 (by decide) ?_
  refine vp_callSi (va_runS (As := [.int b, .int (nI 0), .int (nI 7)]) (rest := [.int (nI 1), .ref (am 0)]) ⟨hx, hb, hml, hown, hts⟩ (c_M_isIn l dC dI b (nI 0) (nI 7) ) (cwS 3 hts (g_S t_781 t_782 t_6 t_783) rfl rfl rfl (by decide +kernel) ⟨by decide, by decide⟩) (xR_s (va_P.sub hP [] rfl) (hK.sub [] rfl)) rfl rfl hl.1 rfl (lv_room (Nat.le_of_ble_eq_true rfl)) d_M_failBlock_6 ⟨Nat.le_refl _, Nat.le_refl _⟩).run (fun r6 q6 => ?_)
  obtain ⟨rfl, -⟩ := q6.resolve_left (fun z => (hok) z.2)
  refine lv_if_ne (tgt := 16) hx hb d_M_failBlock_9 (by decide) (fun c9 => ?_) (fun c9 => ?_)
  ·
    exact absurd c9 (by decide)
  ·
    refine lv_iconst (v := nI 1) hx hb d_M_failBlock_12 (by decide) ?_
    refine lv_goto (tgt := 17) hx hb d_M_failBlock_13 (by decide) ?_
    have hSz := hS.1
    refine va_calli (va_runV (C := R_M) (As := [.int (nI 1), .int (nI 1)]) (rest := []) ⟨hx, hb, hml, hown, hts⟩ (c_M_fails_1 l dC dI am cm s.heap.size th mw mwr mfl mact (nI 1) (-1) (nI 0) mlog mlive had (nI 0) (-1) (nI 0) (nI 0) (nI 0) pg pla sou fou (nI 1) ) (cwV 2 hts (g_V t_784 t_786 s_22 t_6 t_787) rfl rfl rfl (by decide +kernel) ⟨by decide, by decide⟩) (xP_v hP hK hD 0 rfl rfl) rfl rfl hl.1 rfl (lv_room (Nat.le_of_ble_eq_true rfl)) d_M_failBlock_17 ⟨Nat.le_refl _, Nat.le_refl _⟩) hS (fun q _ h => xA_up hS.1 q h) (fun q h => xA_up hS.1 q h) (fun r17 u17 t H1 locs1 ht hvm q17 hB hz1 hk1 hS => ?_)
    obtain ⟨hP1, hK1, hD1⟩ := hB
    rw [ht] at hP1
    have hD : va_D (xA 9 am s.heap.size) (mw_ am cm (nI 1) mw mwr mfl mact (nI 1) (-1) (nI 0) mlog mlive had (nI 0) (-1) (nI 0) (nI 0) (nI 0) pg pla sou fou) := hD1.weaken (fun _ q _ h => xA_up hSz _ h)
    have hP : va_P (dC, dI) vwCl (mw_ am cm (nI 1) mw mwr mfl mact (nI 1) (-1) (nI 0) mlog mlive had (nI 0) (-1) (nI 0) (nI 0) (nI 0) pg pla sou fou) H1 := hP1
    generalize H1 = H at hP hS ⊢
    generalize locs1 = locs at hS ⊢
    subst q17
    refine lv_if_ne (tgt := 30) hx hb d_M_failBlock_20 (by decide) (fun c20 => ?_) (fun c20 => ?_)
    ·
      exact W.vret hx hb hr (fun t ht hW => ⟨⟨(), rfl, by first | rfl | trivial | omega, ⟨by rw [ht]; exact hP, va_K.moved hW.alike hK, hD⟩⟩, hS.F ht⟩) hS.2.2 d_M_failBlock_30
    ·
      exact absurd c20 (by decide)
set_option maxHeartbeats 4000000 in
set_option maxRecDepth 100000 in
theorem c_M_poke_ok (l : Launch) (dC : Nat → ClassId) (dI : Nat → Nat → Nat) (am cm : Nat → Nat) (sz : Nat) (th : Int32) (mw mwr mfl mact : Nat → Int32) (on cut mrec : Int32) (mlog mlive had : Nat → Int32) (mser mcur mrd mwt worn : Int32) (pg : Nat → Int32) (pla sou fou : Int32) (j k : Nat) (mask : Int32) (hj : j < 32) (hk : k < 16) : Met l y_M_poke w_M_poke ({ frames := 1, cells := 0, slots := 0, locals := 22 }) (xP (dC, dI) vwCl (mt cm) (mw_ am cm th mw mwr mfl mact (nI 1) (-1) (nI 0) mlog mlive had (nI 0) (-1) (nI 0) (nI 0) (nI 0) pg pla sou fou) sz [.ref (am 0), .int (nI j), .int (nI k), .int mask]) (va_Qv (fun (u : Unit) => True) (fun (u : Unit) (t : State) => xB (dC, dI) vwCl (mt cm) (xA 9 am sz) (mw_ am cm (nI 0) (upd mw (16 * j + k) (mw (16 * j + k) ^^^ mask)) mwr mfl mact (nI 1) (-1) (nI 0) mlog mlive had (nI 0) (-1) (nI 0) (nI 0) (nI 0) pg pla sou fou) t) (xA 9 am sz)) 0 0 (xA 9 am sz) := by
  refine Met.ofW (cc := b_M_poke) (maxL := 4) (ret := none) (by decide) rfl ?_
  intro P e s m args below meth c0 s₁ B hml hv
  obtain ⟨rfl, hsz, hP, hK, hD0⟩ := hv
  have hx := B.exec
  have hb := B.bytes
  have hr := B.returns
  have hts := atoms_spec (ws := w_M_poke) B.pre
  have hown : s.vm.findClass R_M = some m.cls := findClass_of_methodNamed B.named
  have hlocks := B.notSynchronized
  subst hsz
  have hD := mw_D (sz := s.heap.size) hD0
  have hS : va_S (xA 9 am s.heap.size) s.heap s.heap [] := va_S.rf
  have hA : ∀ q : Nat, s.heap.size ≤ q → (xA 9 am s.heap.size) q := fun q h => Or.inr h
  have hl := lv_entry ([.ref (am 0), .int (nI j), .int (nI k), .int mask]) (n := 4) (Nat.le_of_ble_eq_true rfl)
  rw [lg_entry_eq]
  generalize (lg_sl ([.ref (am 0), .int (nI j), .int (nI k), .int mask]) ++ List.replicate (4 - (lg_sl ([.ref (am 0), .int (nI j), .int (nI k), .int mask])).length) Slot.unset).toArray = ls at hl ⊢
  have hl : lv_has ls 4 [(0, .ref (am 0)), (1, .int (nI j)), (2, .int (nI k)), (3, .int mask)] := hl
  refine lv_aload_n hx hb d_M_poke_0 rfl (lv_at hl 0 rfl) ?_
  refine lv_iconst (v := nI 1) hx hb d_M_poke_1 (by decide) ?_
  refine lv_iload_n hx hb d_M_poke_2 rfl (lv_at hl 1 rfl) ?_
  refine lv_iconst (v := nI 0) hx hb d_M_poke_3 (by decide) ?_
  refine lv_bipush (v := nI 31) hx hb d_M_poke_4 (by decide) ?_
  refine vp_callSi (va_runS (As := [.int (nI j), .int (nI 0), .int (nI 31)]) (rest := [.int (nI 1), .ref (am 0)]) ⟨hx, hb, hml, hown, hts⟩ (c_M_isIn l dC dI (nI j) (nI 0) (nI 31) ) (cwS 3 hts (g_S t_781 t_782 t_6 t_783) rfl rfl rfl (by decide +kernel) ⟨by decide, by decide⟩) (xR_s (va_P.sub hP [] rfl) (hK.sub [] rfl)) rfl rfl hl.1 rfl (lv_room (Nat.le_of_ble_eq_true rfl)) d_M_poke_6 ⟨Nat.le_refl _, Nat.le_refl _⟩).run (fun r6 q6 => ?_)
  obtain ⟨rfl, -⟩ := q6.resolve_right (fun z => z.2 (⟨(nI_leI (by decide) (by omega)).mpr (Nat.zero_le _), (nI_leI (by omega) (by decide)).mpr (by omega)⟩))
  refine lv_if_eq (tgt := 22) hx hb d_M_poke_9 (by decide) (fun c9 => ?_) (fun c9 => ?_)
  ·
    exact absurd c9 (by decide)
  ·
    refine lv_iload_n hx hb d_M_poke_12 rfl (lv_at hl 2 rfl) ?_
    refine lv_iconst (v := nI 0) hx hb d_M_poke_13 (by decide) ?_
    refine lv_bipush (v := nI 15) hx hb d_M_poke_14 (by decide) ?_
    refine vp_callSi (va_runS (As := [.int (nI k), .int (nI 0), .int (nI 15)]) (rest := [.int (nI 1), .ref (am 0)]) ⟨hx, hb, hml, hown, hts⟩ (c_M_isIn l dC dI (nI k) (nI 0) (nI 15) ) (cwS 3 hts (g_S t_781 t_782 t_6 t_783) rfl rfl rfl (by decide +kernel) ⟨by decide, by decide⟩) (xR_s (va_P.sub hP [] rfl) (hK.sub [] rfl)) rfl rfl hl.1 rfl (lv_room (Nat.le_of_ble_eq_true rfl)) d_M_poke_16 ⟨Nat.le_refl _, Nat.le_refl _⟩).run (fun r16 q16 => ?_)
    obtain ⟨rfl, -⟩ := q16.resolve_right (fun z => z.2 (⟨(nI_leI (by decide) (by omega)).mpr (Nat.zero_le _), (nI_leI (by omega) (by decide)).mpr (by omega)⟩))
    refine lv_if_ne (tgt := 26) hx hb d_M_poke_19 (by decide) (fun c19 => ?_) (fun c19 => ?_)
    ·
      refine lv_iconst (v := nI 0) hx hb d_M_poke_26 (by decide) ?_
      have hSz := hS.1
      refine va_calli (va_runV (C := R_M) (As := [.int (nI 1), .int (nI 0)]) (rest := []) ⟨hx, hb, hml, hown, hts⟩ (c_M_fails_0 l dC dI am cm s.heap.size th mw mwr mfl mact (nI 1) (-1) (nI 0) mlog mlive had (nI 0) (-1) (nI 0) (nI 0) (nI 0) pg pla sou fou (nI 1) ) (cwV 2 hts (g_V t_784 t_786 s_22 t_6 t_787) rfl rfl rfl (by decide +kernel) ⟨by decide, by decide⟩) (xP_v hP hK hD 0 rfl rfl) rfl rfl hl.1 rfl (lv_room (Nat.le_of_ble_eq_true rfl)) d_M_poke_27 ⟨Nat.le_refl _, Nat.le_refl _⟩) hS (fun q _ h => xA_up hS.1 q h) (fun q h => xA_up hS.1 q h) (fun r27 u27 t H1 locs1 ht hvm q27 hB hz1 hk1 hS => ?_)
      obtain ⟨hP1, hK1, hD1⟩ := hB
      rw [ht] at hP1
      have hD : va_D (xA 9 am s.heap.size) (mw_ am cm (nI 0) mw mwr mfl mact (nI 1) (-1) (nI 0) mlog mlive had (nI 0) (-1) (nI 0) (nI 0) (nI 0) pg pla sou fou) := hD1.weaken (fun _ q _ h => xA_up hSz _ h)
      have hP : va_P (dC, dI) vwCl (mw_ am cm (nI 0) mw mwr mfl mact (nI 1) (-1) (nI 0) mlog mlive had (nI 0) (-1) (nI 0) (nI 0) (nI 0) pg pla sou fou) H1 := hP1
      generalize H1 = H at hP hS ⊢
      generalize locs1 = locs at hS ⊢
      subst q27
      refine lv_if_ne (tgt := 48) hx hb d_M_poke_30 (by decide) (fun c30 => ?_) (fun c30 => ?_)
      ·
        exact absurd c30 (by decide)
      ·
        refine lv_aload_n hx hb d_M_poke_33 rfl (lv_at hl 0 rfl) ?_
        refine va_get (D := (dC, dI)) (ci := 5) (v := .ref (am 1)) (C := R_M) (T := F_M) (N := 20) hx hb hts (fun w h => List.mem_cons_of_mem _ (in_M w h)) hown hK hP 0 rfl rfl 1 (by decide) (hts (.fieldLink R_M 7 R_M "chip" "[I") (List.mem_cons_of_mem _ t_713)) (fun _ h9 => h9) rfl d_M_poke_34 ?_
        refine lv_bipush (v := nI 16) hx hb d_M_poke_37 (by decide) ?_
        refine lv_iload_n hx hb d_M_poke_39 rfl (lv_at hl 1 rfl) ?_
        refine lv_imul hx hb d_M_poke_40 ?_
        refine tp_i (y := nI (16 * j)) (pk_mul _ _) ?_
        refine lv_iload_n hx hb d_M_poke_41 rfl (lv_at hl 2 rfl) ?_
        refine lv_iadd hx hb d_M_poke_42 ?_
        refine tp_i (y := nI ((16 * j) + k)) (nI_add _ _) ?_
        refine lv_dup2_11 hx hb d_M_poke_43 rfl rfl ?_
        refine va_iald hx hb hK hP 1 0 rfl rfl (vp_in_nI (by omega) (by decide)) d_M_poke_44 ?_
        refine tp_i (y := mw ((16 * j) + k)) (by rw [nI_clamp (by omega)]) ?_
        refine lv_iload_n hx hb d_M_poke_45 rfl (lv_at hl 3 rfl) ?_
        refine lv_ixor hx hb d_M_poke_46 ?_
        refine va_iast hx hb hK hP hD hS 1 0 rfl rfl (vp_in_nI (by omega) (by decide)) d_M_poke_47 (fun H locs hP hD hS => ?_)
        rw [nI_clamp (by omega)] at hP hD
        have hP : va_P (dC, dI) vwCl (mw_ am cm (nI 0) (upd mw ((16 * j) + k) ((mw ((16 * j) + k)) ^^^ mask)) mwr mfl mact (nI 1) (-1) (nI 0) mlog mlive had (nI 0) (-1) (nI 0) (nI 0) (nI 0) pg pla sou fou) H := hP
        have hD : va_D (xA 9 am s.heap.size) (mw_ am cm (nI 0) (upd mw ((16 * j) + k) ((mw ((16 * j) + k)) ^^^ mask)) mwr mfl mact (nI 1) (-1) (nI 0) mlog mlive had (nI 0) (-1) (nI 0) (nI 0) (nI 0) pg pla sou fou) := hD
        exact W.vret hx hb hr (fun t ht hW => ⟨⟨(), rfl, by first | rfl | trivial | omega, ⟨by rw [ht]; exact hP, va_K.moved hW.alike hK, hD⟩⟩, hS.F ht⟩) hS.2.2 d_M_poke_48
    ·
      exact absurd c19 (by decide)
set_option maxHeartbeats 4000000 in
set_option maxRecDepth 100000 in
theorem c_M_poke_bad (l : Launch) (dC : Nat → ClassId) (dI : Nat → Nat → Nat) (am cm : Nat → Nat) (sz : Nat) (th : Int32) (mw mwr mfl mact : Nat → Int32) (on cut mrec : Int32) (mlog mlive had : Nat → Int32) (mser mcur mrd mwt worn : Int32) (pg : Nat → Int32) (pla sou fou : Int32) (pa wo_ mask : Int32) (hbad : ¬ ((nI 0 ≤ pa ∧ pa ≤ nI 31) ∧ (nI 0 ≤ wo_ ∧ wo_ ≤ nI 15))) : Met l y_M_poke w_M_poke ({ frames := 1, cells := 0, slots := 0, locals := 22 }) (xP (dC, dI) vwCl (mt cm) (mw_ am cm th mw mwr mfl mact (nI 1) (-1) (nI 0) mlog mlive had (nI 0) (-1) (nI 0) (nI 0) (nI 0) pg pla sou fou) sz [.ref (am 0), .int pa, .int wo_, .int mask]) (va_Qv (fun (u : Unit) => True) (fun (u : Unit) (t : State) => xB (dC, dI) vwCl (mt cm) (xA 9 am sz) (mw_ am cm (nI 1) mw mwr mfl mact (nI 1) (-1) (nI 0) mlog mlive had (nI 0) (-1) (nI 0) (nI 0) (nI 0) pg pla sou fou) t) (xA 9 am sz)) 0 0 (xA 9 am sz) := by
  refine Met.ofW (cc := b_M_poke) (maxL := 4) (ret := none) (by decide) rfl ?_
  intro P e s m args below meth c0 s₁ B hml hv
  obtain ⟨rfl, hsz, hP, hK, hD0⟩ := hv
  have hx := B.exec
  have hb := B.bytes
  have hr := B.returns
  have hts := atoms_spec (ws := w_M_poke) B.pre
  have hown : s.vm.findClass R_M = some m.cls := findClass_of_methodNamed B.named
  have hlocks := B.notSynchronized
  subst hsz
  have hD := mw_D (sz := s.heap.size) hD0
  have hS : va_S (xA 9 am s.heap.size) s.heap s.heap [] := va_S.rf
  have hA : ∀ q : Nat, s.heap.size ≤ q → (xA 9 am s.heap.size) q := fun q h => Or.inr h
  have hl := lv_entry ([.ref (am 0), .int pa, .int wo_, .int mask]) (n := 4) (Nat.le_of_ble_eq_true rfl)
  rw [lg_entry_eq]
  generalize (lg_sl ([.ref (am 0), .int pa, .int wo_, .int mask]) ++ List.replicate (4 - (lg_sl ([.ref (am 0), .int pa, .int wo_, .int mask])).length) Slot.unset).toArray = ls at hl ⊢
  have hl : lv_has ls 4 [(0, .ref (am 0)), (1, .int pa), (2, .int wo_), (3, .int mask)] := hl
  refine lv_aload_n hx hb d_M_poke_0 rfl (lv_at hl 0 rfl) ?_
  refine lv_iconst (v := nI 1) hx hb d_M_poke_1 (by decide) ?_
  refine lv_iload_n hx hb d_M_poke_2 rfl (lv_at hl 1 rfl) ?_
  refine lv_iconst (v := nI 0) hx hb d_M_poke_3 (by decide) ?_
  refine lv_bipush (v := nI 31) hx hb d_M_poke_4 (by decide) ?_
  refine vp_callSi (va_runS (As := [.int pa, .int (nI 0), .int (nI 31)]) (rest := [.int (nI 1), .ref (am 0)]) ⟨hx, hb, hml, hown, hts⟩ (c_M_isIn l dC dI pa (nI 0) (nI 31) ) (cwS 3 hts (g_S t_781 t_782 t_6 t_783) rfl rfl rfl (by decide +kernel) ⟨by decide, by decide⟩) (xR_s (va_P.sub hP [] rfl) (hK.sub [] rfl)) rfl rfl hl.1 rfl (lv_room (Nat.le_of_ble_eq_true rfl)) d_M_poke_6 ⟨Nat.le_refl _, Nat.le_refl _⟩).run (fun r6 q6 => ?_)
  rcases q6 with ⟨rfl, h6⟩ | ⟨rfl, h6⟩
  ·
    refine lv_if_eq (tgt := 22) hx hb d_M_poke_9 (by decide) (fun c9 => ?_) (fun c9 => ?_)
    ·
      exact absurd c9 (by decide)
    ·
      refine lv_iload_n hx hb d_M_poke_12 rfl (lv_at hl 2 rfl) ?_
      refine lv_iconst (v := nI 0) hx hb d_M_poke_13 (by decide) ?_
      refine lv_bipush (v := nI 15) hx hb d_M_poke_14 (by decide) ?_
      refine vp_callSi (va_runS (As := [.int wo_, .int (nI 0), .int (nI 15)]) (rest := [.int (nI 1), .ref (am 0)]) ⟨hx, hb, hml, hown, hts⟩ (c_M_isIn l dC dI wo_ (nI 0) (nI 15) ) (cwS 3 hts (g_S t_781 t_782 t_6 t_783) rfl rfl rfl (by decide +kernel) ⟨by decide, by decide⟩) (xR_s (va_P.sub hP [] rfl) (hK.sub [] rfl)) rfl rfl hl.1 rfl (lv_room (Nat.le_of_ble_eq_true rfl)) d_M_poke_16 ⟨Nat.le_refl _, Nat.le_refl _⟩).run (fun r16 q16 => ?_)
      rcases q16 with ⟨rfl, h16⟩ | ⟨rfl, h16⟩
      ·
        refine lv_if_ne (tgt := 26) hx hb d_M_poke_19 (by decide) (fun c19 => ?_) (fun c19 => ?_)
        ·
          exact absurd ⟨h6, h16⟩ hbad
        ·
          exact absurd c19 (by decide)
      ·
        refine lv_if_ne (tgt := 26) hx hb d_M_poke_19 (by decide) (fun c19 => ?_) (fun c19 => ?_)
        ·
          exact absurd c19 (by decide)
        ·
          refine lv_iconst (v := nI 1) hx hb d_M_poke_22 (by decide) ?_
          refine lv_goto (tgt := 27) hx hb d_M_poke_23 (by decide) ?_
          have hSz := hS.1
          refine va_calli (va_runV (C := R_M) (As := [.int (nI 1), .int (nI 1)]) (rest := []) ⟨hx, hb, hml, hown, hts⟩ (c_M_fails_1 l dC dI am cm s.heap.size th mw mwr mfl mact (nI 1) (-1) (nI 0) mlog mlive had (nI 0) (-1) (nI 0) (nI 0) (nI 0) pg pla sou fou (nI 1) ) (cwV 2 hts (g_V t_784 t_786 s_22 t_6 t_787) rfl rfl rfl (by decide +kernel) ⟨by decide, by decide⟩) (xP_v hP hK hD 0 rfl rfl) rfl rfl hl.1 rfl (lv_room (Nat.le_of_ble_eq_true rfl)) d_M_poke_27 ⟨Nat.le_refl _, Nat.le_refl _⟩) hS (fun q _ h => xA_up hS.1 q h) (fun q h => xA_up hS.1 q h) (fun r27 u27 t H1 locs1 ht hvm q27 hB hz1 hk1 hS => ?_)
          obtain ⟨hP1, hK1, hD1⟩ := hB
          rw [ht] at hP1
          have hD : va_D (xA 9 am s.heap.size) (mw_ am cm (nI 1) mw mwr mfl mact (nI 1) (-1) (nI 0) mlog mlive had (nI 0) (-1) (nI 0) (nI 0) (nI 0) pg pla sou fou) := hD1.weaken (fun _ q _ h => xA_up hSz _ h)
          have hP : va_P (dC, dI) vwCl (mw_ am cm (nI 1) mw mwr mfl mact (nI 1) (-1) (nI 0) mlog mlive had (nI 0) (-1) (nI 0) (nI 0) (nI 0) pg pla sou fou) H1 := hP1
          generalize H1 = H at hP hS ⊢
          generalize locs1 = locs at hS ⊢
          subst q27
          refine lv_if_ne (tgt := 48) hx hb d_M_poke_30 (by decide) (fun c30 => ?_) (fun c30 => ?_)
          ·
            exact W.vret hx hb hr (fun t ht hW => ⟨⟨(), rfl, by first | rfl | trivial | omega, ⟨by rw [ht]; exact hP, va_K.moved hW.alike hK, hD⟩⟩, hS.F ht⟩) hS.2.2 d_M_poke_48
          ·
            exact absurd c30 (by decide)
  ·
    refine lv_if_eq (tgt := 22) hx hb d_M_poke_9 (by decide) (fun c9 => ?_) (fun c9 => ?_)
    ·
      refine lv_iconst (v := nI 1) hx hb d_M_poke_22 (by decide) ?_
      refine lv_goto (tgt := 27) hx hb d_M_poke_23 (by decide) ?_
      have hSz := hS.1
      refine va_calli (va_runV (C := R_M) (As := [.int (nI 1), .int (nI 1)]) (rest := []) ⟨hx, hb, hml, hown, hts⟩ (c_M_fails_1 l dC dI am cm s.heap.size th mw mwr mfl mact (nI 1) (-1) (nI 0) mlog mlive had (nI 0) (-1) (nI 0) (nI 0) (nI 0) pg pla sou fou (nI 1) ) (cwV 2 hts (g_V t_784 t_786 s_22 t_6 t_787) rfl rfl rfl (by decide +kernel) ⟨by decide, by decide⟩) (xP_v hP hK hD 0 rfl rfl) rfl rfl hl.1 rfl (lv_room (Nat.le_of_ble_eq_true rfl)) d_M_poke_27 ⟨Nat.le_refl _, Nat.le_refl _⟩) hS (fun q _ h => xA_up hS.1 q h) (fun q h => xA_up hS.1 q h) (fun r27 u27 t H1 locs1 ht hvm q27 hB hz1 hk1 hS => ?_)
      obtain ⟨hP1, hK1, hD1⟩ := hB
      rw [ht] at hP1
      have hD : va_D (xA 9 am s.heap.size) (mw_ am cm (nI 1) mw mwr mfl mact (nI 1) (-1) (nI 0) mlog mlive had (nI 0) (-1) (nI 0) (nI 0) (nI 0) pg pla sou fou) := hD1.weaken (fun _ q _ h => xA_up hSz _ h)
      have hP : va_P (dC, dI) vwCl (mw_ am cm (nI 1) mw mwr mfl mact (nI 1) (-1) (nI 0) mlog mlive had (nI 0) (-1) (nI 0) (nI 0) (nI 0) pg pla sou fou) H1 := hP1
      generalize H1 = H at hP hS ⊢
      generalize locs1 = locs at hS ⊢
      subst q27
      refine lv_if_ne (tgt := 48) hx hb d_M_poke_30 (by decide) (fun c30 => ?_) (fun c30 => ?_)
      ·
        exact W.vret hx hb hr (fun t ht hW => ⟨⟨(), rfl, by first | rfl | trivial | omega, ⟨by rw [ht]; exact hP, va_K.moved hW.alike hK, hD⟩⟩, hS.F ht⟩) hS.2.2 d_M_poke_48
      ·
        exact absurd c30 (by decide)
    ·
      exact absurd c9 (by decide)
set_option maxHeartbeats 4000000 in
set_option maxRecDepth 100000 in
theorem c_M_word_ok (l : Launch) (dC : Nat → ClassId) (dI : Nat → Nat → Nat) (am cm : Nat → Nat) (sz : Nat) (th : Int32) (mw mwr mfl mact : Nat → Int32) (on cut mrec : Int32) (mlog mlive had : Nat → Int32) (mser mcur mrd mwt worn : Int32) (pg : Nat → Int32) (pla sou fou : Int32) (j k : Nat) (hj : j < 32) (hk : k < 16) : Met l y_M_word w_M_word ({ frames := 1, cells := 0, slots := 0, locals := 22 }) (xP (dC, dI) vwCl (mt cm) (mw_ am cm th mw mwr mfl mact (nI 1) (-1) (nI 0) mlog mlive had (nI 0) (-1) (nI 0) (nI 0) (nI 0) pg pla sou fou) sz [.ref (am 0), .int (nI j), .int (nI k)]) (va_Qi (fun r (u : Unit) => r = mw (16 * j + k)) (fun (u : Unit) (t : State) => xB (dC, dI) vwCl (mt cm) (xA 9 am sz) (mw_ am cm (nI 0) mw mwr mfl mact (nI 1) (-1) (nI 0) mlog mlive had (nI 0) (-1) (nI 0) (nI 0) (nI 0) pg pla sou fou) t) (xA 9 am sz)) 0 0 (xA 9 am sz) := by
  refine Met.ofW (cc := b_M_word) (maxL := 3) (ret := (some (.int))) (by decide) rfl ?_
  intro P e s m args below meth c0 s₁ B hml hv
  obtain ⟨rfl, hsz, hP, hK, hD0⟩ := hv
  have hx := B.exec
  have hb := B.bytes
  have hr := B.returns
  have hts := atoms_spec (ws := w_M_word) B.pre
  have hown : s.vm.findClass R_M = some m.cls := findClass_of_methodNamed B.named
  have hlocks := B.notSynchronized
  subst hsz
  have hD := mw_D (sz := s.heap.size) hD0
  have hS : va_S (xA 9 am s.heap.size) s.heap s.heap [] := va_S.rf
  have hA : ∀ q : Nat, s.heap.size ≤ q → (xA 9 am s.heap.size) q := fun q h => Or.inr h
  have hl := lv_entry ([.ref (am 0), .int (nI j), .int (nI k)]) (n := 3) (Nat.le_of_ble_eq_true rfl)
  rw [lg_entry_eq]
  generalize (lg_sl ([.ref (am 0), .int (nI j), .int (nI k)]) ++ List.replicate (3 - (lg_sl ([.ref (am 0), .int (nI j), .int (nI k)])).length) Slot.unset).toArray = ls at hl ⊢
  have hl : lv_has ls 3 [(0, .ref (am 0)), (1, .int (nI j)), (2, .int (nI k))] := hl
  refine lv_aload_n hx hb d_M_word_0 rfl (lv_at hl 0 rfl) ?_
  refine lv_iconst (v := nI 1) hx hb d_M_word_1 (by decide) ?_
  refine lv_iload_n hx hb d_M_word_2 rfl (lv_at hl 1 rfl) ?_
  refine lv_iconst (v := nI 0) hx hb d_M_word_3 (by decide) ?_
  refine lv_bipush (v := nI 31) hx hb d_M_word_4 (by decide) ?_
  refine vp_callSi (va_runS (As := [.int (nI j), .int (nI 0), .int (nI 31)]) (rest := [.int (nI 1), .ref (am 0)]) ⟨hx, hb, hml, hown, hts⟩ (c_M_isIn l dC dI (nI j) (nI 0) (nI 31) ) (cwS 3 hts (g_S t_781 t_782 t_6 t_783) rfl rfl rfl (by decide +kernel) ⟨by decide, by decide⟩) (xR_s (va_P.sub hP [] rfl) (hK.sub [] rfl)) rfl rfl hl.1 rfl (lv_room (Nat.le_of_ble_eq_true rfl)) d_M_word_6 ⟨Nat.le_refl _, Nat.le_refl _⟩).run (fun r6 q6 => ?_)
  obtain ⟨rfl, -⟩ := q6.resolve_right (fun z => z.2 (⟨(nI_leI (by decide) (by omega)).mpr (Nat.zero_le _), (nI_leI (by omega) (by decide)).mpr (by omega)⟩))
  refine lv_if_eq (tgt := 22) hx hb d_M_word_9 (by decide) (fun c9 => ?_) (fun c9 => ?_)
  ·
    exact absurd c9 (by decide)
  ·
    refine lv_iload_n hx hb d_M_word_12 rfl (lv_at hl 2 rfl) ?_
    refine lv_iconst (v := nI 0) hx hb d_M_word_13 (by decide) ?_
    refine lv_bipush (v := nI 15) hx hb d_M_word_14 (by decide) ?_
    refine vp_callSi (va_runS (As := [.int (nI k), .int (nI 0), .int (nI 15)]) (rest := [.int (nI 1), .ref (am 0)]) ⟨hx, hb, hml, hown, hts⟩ (c_M_isIn l dC dI (nI k) (nI 0) (nI 15) ) (cwS 3 hts (g_S t_781 t_782 t_6 t_783) rfl rfl rfl (by decide +kernel) ⟨by decide, by decide⟩) (xR_s (va_P.sub hP [] rfl) (hK.sub [] rfl)) rfl rfl hl.1 rfl (lv_room (Nat.le_of_ble_eq_true rfl)) d_M_word_16 ⟨Nat.le_refl _, Nat.le_refl _⟩).run (fun r16 q16 => ?_)
    obtain ⟨rfl, -⟩ := q16.resolve_right (fun z => z.2 (⟨(nI_leI (by decide) (by omega)).mpr (Nat.zero_le _), (nI_leI (by omega) (by decide)).mpr (by omega)⟩))
    refine lv_if_ne (tgt := 26) hx hb d_M_word_19 (by decide) (fun c19 => ?_) (fun c19 => ?_)
    ·
      refine lv_iconst (v := nI 0) hx hb d_M_word_26 (by decide) ?_
      have hSz := hS.1
      refine va_calli (va_runV (C := R_M) (As := [.int (nI 1), .int (nI 0)]) (rest := []) ⟨hx, hb, hml, hown, hts⟩ (c_M_fails_0 l dC dI am cm s.heap.size th mw mwr mfl mact (nI 1) (-1) (nI 0) mlog mlive had (nI 0) (-1) (nI 0) (nI 0) (nI 0) pg pla sou fou (nI 1) ) (cwV 2 hts (g_V t_784 t_786 s_22 t_6 t_787) rfl rfl rfl (by decide +kernel) ⟨by decide, by decide⟩) (xP_v hP hK hD 0 rfl rfl) rfl rfl hl.1 rfl (lv_room (Nat.le_of_ble_eq_true rfl)) d_M_word_27 ⟨Nat.le_refl _, Nat.le_refl _⟩) hS (fun q _ h => xA_up hS.1 q h) (fun q h => xA_up hS.1 q h) (fun r27 u27 t H1 locs1 ht hvm q27 hB hz1 hk1 hS => ?_)
      obtain ⟨hP1, hK1, hD1⟩ := hB
      rw [ht] at hP1
      have hD : va_D (xA 9 am s.heap.size) (mw_ am cm (nI 0) mw mwr mfl mact (nI 1) (-1) (nI 0) mlog mlive had (nI 0) (-1) (nI 0) (nI 0) (nI 0) pg pla sou fou) := hD1.weaken (fun _ q _ h => xA_up hSz _ h)
      have hP : va_P (dC, dI) vwCl (mw_ am cm (nI 0) mw mwr mfl mact (nI 1) (-1) (nI 0) mlog mlive had (nI 0) (-1) (nI 0) (nI 0) (nI 0) pg pla sou fou) H1 := hP1
      generalize H1 = H at hP hS ⊢
      generalize locs1 = locs at hS ⊢
      subst q27
      refine lv_if_eq (tgt := 37) hx hb d_M_word_30 (by decide) (fun c30 => ?_) (fun c30 => ?_)
      ·
        refine lv_aload_n hx hb d_M_word_37 rfl (lv_at hl 0 rfl) ?_
        refine va_get (D := (dC, dI)) (ci := 5) (v := .ref (am 1)) (C := R_M) (T := F_M) (N := 20) hx hb hts (fun w h => List.mem_cons_of_mem _ (in_M w h)) hown hK hP 0 rfl rfl 1 (by decide) (hts (.fieldLink R_M 7 R_M "chip" "[I") (List.mem_cons_of_mem _ t_713)) (fun _ h9 => h9) rfl d_M_word_38 ?_
        refine lv_bipush (v := nI 16) hx hb d_M_word_41 (by decide) ?_
        refine lv_iload_n hx hb d_M_word_43 rfl (lv_at hl 1 rfl) ?_
        refine lv_imul hx hb d_M_word_44 ?_
        refine tp_i (y := nI (16 * j)) (pk_mul _ _) ?_
        refine lv_iload_n hx hb d_M_word_45 rfl (lv_at hl 2 rfl) ?_
        refine lv_iadd hx hb d_M_word_46 ?_
        refine tp_i (y := nI ((16 * j) + k)) (nI_add _ _) ?_
        refine va_iald hx hb hK hP 1 0 rfl rfl (vp_in_nI (by omega) (by decide)) d_M_word_47 ?_
        refine tp_i (y := mw ((16 * j) + k)) (by rw [nI_clamp (by omega)]) ?_
        exact W.iret (v := mw ((16 * j) + k)) hx hb hr (fun t ht hW => ⟨⟨mw ((16 * j) + k), (), rfl, by first | rfl | trivial | omega, ⟨by rw [ht]; exact hP, va_K.moved hW.alike hK, hD⟩⟩, hS.F ht⟩) hS.2.2 d_M_word_48
      ·
        exact absurd c30 (by decide)
    ·
      exact absurd c19 (by decide)
set_option maxHeartbeats 4000000 in
set_option maxRecDepth 100000 in
theorem c_M_word_bad (l : Launch) (dC : Nat → ClassId) (dI : Nat → Nat → Nat) (am cm : Nat → Nat) (sz : Nat) (th : Int32) (mw mwr mfl mact : Nat → Int32) (on cut mrec : Int32) (mlog mlive had : Nat → Int32) (mser mcur mrd mwt worn : Int32) (pg : Nat → Int32) (pla sou fou : Int32) (pa wo_ : Int32) (hbad : ¬ ((nI 0 ≤ pa ∧ pa ≤ nI 31) ∧ (nI 0 ≤ wo_ ∧ wo_ ≤ nI 15))) : Met l y_M_word w_M_word ({ frames := 1, cells := 0, slots := 0, locals := 22 }) (xP (dC, dI) vwCl (mt cm) (mw_ am cm th mw mwr mfl mact (nI 1) (-1) (nI 0) mlog mlive had (nI 0) (-1) (nI 0) (nI 0) (nI 0) pg pla sou fou) sz [.ref (am 0), .int pa, .int wo_]) (va_Qi (fun r (u : Unit) => r = nI 0) (fun (u : Unit) (t : State) => xB (dC, dI) vwCl (mt cm) (xA 9 am sz) (mw_ am cm (nI 1) mw mwr mfl mact (nI 1) (-1) (nI 0) mlog mlive had (nI 0) (-1) (nI 0) (nI 0) (nI 0) pg pla sou fou) t) (xA 9 am sz)) 0 0 (xA 9 am sz) := by
  refine Met.ofW (cc := b_M_word) (maxL := 3) (ret := (some (.int))) (by decide) rfl ?_
  intro P e s m args below meth c0 s₁ B hml hv
  obtain ⟨rfl, hsz, hP, hK, hD0⟩ := hv
  have hx := B.exec
  have hb := B.bytes
  have hr := B.returns
  have hts := atoms_spec (ws := w_M_word) B.pre
  have hown : s.vm.findClass R_M = some m.cls := findClass_of_methodNamed B.named
  have hlocks := B.notSynchronized
  subst hsz
  have hD := mw_D (sz := s.heap.size) hD0
  have hS : va_S (xA 9 am s.heap.size) s.heap s.heap [] := va_S.rf
  have hA : ∀ q : Nat, s.heap.size ≤ q → (xA 9 am s.heap.size) q := fun q h => Or.inr h
  have hl := lv_entry ([.ref (am 0), .int pa, .int wo_]) (n := 3) (Nat.le_of_ble_eq_true rfl)
  rw [lg_entry_eq]
  generalize (lg_sl ([.ref (am 0), .int pa, .int wo_]) ++ List.replicate (3 - (lg_sl ([.ref (am 0), .int pa, .int wo_])).length) Slot.unset).toArray = ls at hl ⊢
  have hl : lv_has ls 3 [(0, .ref (am 0)), (1, .int pa), (2, .int wo_)] := hl
  refine lv_aload_n hx hb d_M_word_0 rfl (lv_at hl 0 rfl) ?_
  refine lv_iconst (v := nI 1) hx hb d_M_word_1 (by decide) ?_
  refine lv_iload_n hx hb d_M_word_2 rfl (lv_at hl 1 rfl) ?_
  refine lv_iconst (v := nI 0) hx hb d_M_word_3 (by decide) ?_
  refine lv_bipush (v := nI 31) hx hb d_M_word_4 (by decide) ?_
  refine vp_callSi (va_runS (As := [.int pa, .int (nI 0), .int (nI 31)]) (rest := [.int (nI 1), .ref (am 0)]) ⟨hx, hb, hml, hown, hts⟩ (c_M_isIn l dC dI pa (nI 0) (nI 31) ) (cwS 3 hts (g_S t_781 t_782 t_6 t_783) rfl rfl rfl (by decide +kernel) ⟨by decide, by decide⟩) (xR_s (va_P.sub hP [] rfl) (hK.sub [] rfl)) rfl rfl hl.1 rfl (lv_room (Nat.le_of_ble_eq_true rfl)) d_M_word_6 ⟨Nat.le_refl _, Nat.le_refl _⟩).run (fun r6 q6 => ?_)
  rcases q6 with ⟨rfl, h6⟩ | ⟨rfl, h6⟩
  ·
    refine lv_if_eq (tgt := 22) hx hb d_M_word_9 (by decide) (fun c9 => ?_) (fun c9 => ?_)
    ·
      exact absurd c9 (by decide)
    ·
      refine lv_iload_n hx hb d_M_word_12 rfl (lv_at hl 2 rfl) ?_
      refine lv_iconst (v := nI 0) hx hb d_M_word_13 (by decide) ?_
      refine lv_bipush (v := nI 15) hx hb d_M_word_14 (by decide) ?_
      refine vp_callSi (va_runS (As := [.int wo_, .int (nI 0), .int (nI 15)]) (rest := [.int (nI 1), .ref (am 0)]) ⟨hx, hb, hml, hown, hts⟩ (c_M_isIn l dC dI wo_ (nI 0) (nI 15) ) (cwS 3 hts (g_S t_781 t_782 t_6 t_783) rfl rfl rfl (by decide +kernel) ⟨by decide, by decide⟩) (xR_s (va_P.sub hP [] rfl) (hK.sub [] rfl)) rfl rfl hl.1 rfl (lv_room (Nat.le_of_ble_eq_true rfl)) d_M_word_16 ⟨Nat.le_refl _, Nat.le_refl _⟩).run (fun r16 q16 => ?_)
      rcases q16 with ⟨rfl, h16⟩ | ⟨rfl, h16⟩
      ·
        refine lv_if_ne (tgt := 26) hx hb d_M_word_19 (by decide) (fun c19 => ?_) (fun c19 => ?_)
        ·
          exact absurd ⟨h6, h16⟩ hbad
        ·
          exact absurd c19 (by decide)
      ·
        refine lv_if_ne (tgt := 26) hx hb d_M_word_19 (by decide) (fun c19 => ?_) (fun c19 => ?_)
        ·
          exact absurd c19 (by decide)
        ·
          refine lv_iconst (v := nI 1) hx hb d_M_word_22 (by decide) ?_
          refine lv_goto (tgt := 27) hx hb d_M_word_23 (by decide) ?_
          have hSz := hS.1
          refine va_calli (va_runV (C := R_M) (As := [.int (nI 1), .int (nI 1)]) (rest := []) ⟨hx, hb, hml, hown, hts⟩ (c_M_fails_1 l dC dI am cm s.heap.size th mw mwr mfl mact (nI 1) (-1) (nI 0) mlog mlive had (nI 0) (-1) (nI 0) (nI 0) (nI 0) pg pla sou fou (nI 1) ) (cwV 2 hts (g_V t_784 t_786 s_22 t_6 t_787) rfl rfl rfl (by decide +kernel) ⟨by decide, by decide⟩) (xP_v hP hK hD 0 rfl rfl) rfl rfl hl.1 rfl (lv_room (Nat.le_of_ble_eq_true rfl)) d_M_word_27 ⟨Nat.le_refl _, Nat.le_refl _⟩) hS (fun q _ h => xA_up hS.1 q h) (fun q h => xA_up hS.1 q h) (fun r27 u27 t H1 locs1 ht hvm q27 hB hz1 hk1 hS => ?_)
          obtain ⟨hP1, hK1, hD1⟩ := hB
          rw [ht] at hP1
          have hD : va_D (xA 9 am s.heap.size) (mw_ am cm (nI 1) mw mwr mfl mact (nI 1) (-1) (nI 0) mlog mlive had (nI 0) (-1) (nI 0) (nI 0) (nI 0) pg pla sou fou) := hD1.weaken (fun _ q _ h => xA_up hSz _ h)
          have hP : va_P (dC, dI) vwCl (mw_ am cm (nI 1) mw mwr mfl mact (nI 1) (-1) (nI 0) mlog mlive had (nI 0) (-1) (nI 0) (nI 0) (nI 0) pg pla sou fou) H1 := hP1
          generalize H1 = H at hP hS ⊢
          generalize locs1 = locs at hS ⊢
          subst q27
          refine lv_if_eq (tgt := 37) hx hb d_M_word_30 (by decide) (fun c30 => ?_) (fun c30 => ?_)
          ·
            exact absurd c30 (by decide)
          ·
            refine lv_iconst (v := nI 0) hx hb d_M_word_33 (by decide) ?_
            refine lv_goto (tgt := 48) hx hb d_M_word_34 (by decide) ?_
            exact W.iret (v := nI 0) hx hb hr (fun t ht hW => ⟨⟨nI 0, (), rfl, by first | rfl | trivial | omega, ⟨by rw [ht]; exact hP, va_K.moved hW.alike hK, hD⟩⟩, hS.F ht⟩) hS.2.2 d_M_word_48
  ·
    refine lv_if_eq (tgt := 22) hx hb d_M_word_9 (by decide) (fun c9 => ?_) (fun c9 => ?_)
    ·
      refine lv_iconst (v := nI 1) hx hb d_M_word_22 (by decide) ?_
      refine lv_goto (tgt := 27) hx hb d_M_word_23 (by decide) ?_
      have hSz := hS.1
      refine va_calli (va_runV (C := R_M) (As := [.int (nI 1), .int (nI 1)]) (rest := []) ⟨hx, hb, hml, hown, hts⟩ (c_M_fails_1 l dC dI am cm s.heap.size th mw mwr mfl mact (nI 1) (-1) (nI 0) mlog mlive had (nI 0) (-1) (nI 0) (nI 0) (nI 0) pg pla sou fou (nI 1) ) (cwV 2 hts (g_V t_784 t_786 s_22 t_6 t_787) rfl rfl rfl (by decide +kernel) ⟨by decide, by decide⟩) (xP_v hP hK hD 0 rfl rfl) rfl rfl hl.1 rfl (lv_room (Nat.le_of_ble_eq_true rfl)) d_M_word_27 ⟨Nat.le_refl _, Nat.le_refl _⟩) hS (fun q _ h => xA_up hS.1 q h) (fun q h => xA_up hS.1 q h) (fun r27 u27 t H1 locs1 ht hvm q27 hB hz1 hk1 hS => ?_)
      obtain ⟨hP1, hK1, hD1⟩ := hB
      rw [ht] at hP1
      have hD : va_D (xA 9 am s.heap.size) (mw_ am cm (nI 1) mw mwr mfl mact (nI 1) (-1) (nI 0) mlog mlive had (nI 0) (-1) (nI 0) (nI 0) (nI 0) pg pla sou fou) := hD1.weaken (fun _ q _ h => xA_up hSz _ h)
      have hP : va_P (dC, dI) vwCl (mw_ am cm (nI 1) mw mwr mfl mact (nI 1) (-1) (nI 0) mlog mlive had (nI 0) (-1) (nI 0) (nI 0) (nI 0) pg pla sou fou) H1 := hP1
      generalize H1 = H at hP hS ⊢
      generalize locs1 = locs at hS ⊢
      subst q27
      refine lv_if_eq (tgt := 37) hx hb d_M_word_30 (by decide) (fun c30 => ?_) (fun c30 => ?_)
      ·
        exact absurd c30 (by decide)
      ·
        refine lv_iconst (v := nI 0) hx hb d_M_word_33 (by decide) ?_
        refine lv_goto (tgt := 48) hx hb d_M_word_34 (by decide) ?_
        exact W.iret (v := nI 0) hx hb hr (fun t ht hW => ⟨⟨nI 0, (), rfl, by first | rfl | trivial | omega, ⟨by rw [ht]; exact hP, va_K.moved hW.alike hK, hD⟩⟩, hS.F ht⟩) hS.2.2 d_M_word_48
    ·
      exact absurd c9 (by decide)
set_option maxHeartbeats 4000000 in
set_option maxRecDepth 100000 in
theorem c_M_state_f (l : Launch) (dC : Nat → ClassId) (dI : Nat → Nat → Nat) (am cm : Nat → Nat) (sz : Nat) (th : Int32) (mw mwr mfl mact : Nat → Int32) (on cut mrec : Int32) (mlog mlive had : Nat → Int32) (mser mcur mrd mwt worn : Int32) (pg : Nat → Int32) (pla sou fou : Int32) (what : Int32) (hmw : ∀ i, i < 512 → mw i = -1) (hmv : ∀ i, i < 16 → mlive i = -1) (hmf : ∀ i, i < 8 → mfl i = 0) : Met l y_M_state w_M_state ({ frames := 2, cells := 0, slots := 0, locals := 45 }) (xP (dC, dI) vwCl (mt cm) (mw_ am cm th mw mwr mfl mact (nI 1) (-1) (nI 0) mlog mlive had (nI 0) (-1) (nI 0) (nI 0) (nI 0) pg pla sou fou) sz [.ref (am 0), .int what]) (va_Qi (fun r (u : Unit) => r = stv what) (fun (u : Unit) (t : State) => xB (dC, dI) vwCl (mt cm) (xA 9 am sz) (mw_ am cm (nI 0) mw mwr mfl mact (nI 1) (-1) (nI 0) mlog mlive had (nI 0) (-1) (nI 0) (nI 0) (nI 0) pg pla sou fou) t) (xA 9 am sz)) 0 0 (xA 9 am sz) := by
  refine Met.ofW (cc := b_M_state) (maxL := 2) (ret := (some (.int))) (by decide) rfl ?_
  intro P e s m args below meth c0 s₁ B hml hv
  obtain ⟨rfl, hsz, hP, hK, hD0⟩ := hv
  have hx := B.exec
  have hb := B.bytes
  have hr := B.returns
  have hts := atoms_spec (ws := w_M_state) B.pre
  have hown : s.vm.findClass R_M = some m.cls := findClass_of_methodNamed B.named
  have hlocks := B.notSynchronized
  subst hsz
  have hD := mw_D (sz := s.heap.size) hD0
  have hS : va_S (xA 9 am s.heap.size) s.heap s.heap [] := va_S.rf
  have hA : ∀ q : Nat, s.heap.size ≤ q → (xA 9 am s.heap.size) q := fun q h => Or.inr h
  have hl := lv_entry ([.ref (am 0), .int what]) (n := 2) (Nat.le_of_ble_eq_true rfl)
  rw [lg_entry_eq]
  generalize (lg_sl ([.ref (am 0), .int what]) ++ List.replicate (2 - (lg_sl ([.ref (am 0), .int what])).length) Slot.unset).toArray = ls at hl ⊢
  have hl : lv_has ls 2 [(0, .ref (am 0)), (1, .int what)] := hl
  refine lv_aload_n hx hb d_M_state_0 rfl (lv_at hl 0 rfl) ?_
  refine lv_iconst (v := nI 0) hx hb d_M_state_1 (by decide) ?_
  refine va_put (D := (dC, dI)) (ci := 5) (v := .int (nI 0)) (ty := .int) (C := R_M) (T := F_M) (N := 20) hx hb hts (fun w h => List.mem_cons_of_mem _ (in_M w h)) t_M ok_M nm_M hown hK hP hD hS 0 rfl rfl 0 (by decide) (hts (.fieldLink R_M 49 R_M "thrown" "I") (List.mem_cons_of_mem _ t_712)) (fun _ h9 => h9) rfl (by decide +kernel) rfl rfl (Nat.le_of_ble_eq_true rfl) d_M_state_2 (fun H locs hP hD hS => ?_)
  have hP : va_P (dC, dI) vwCl (mw_ am cm (nI 0) mw mwr mfl mact (nI 1) (-1) (nI 0) mlog mlive had (nI 0) (-1) (nI 0) (nI 0) (nI 0) pg pla sou fou) H := hP
  have hD : va_D (xA 9 am s.heap.size) (mw_ am cm (nI 0) mw mwr mfl mact (nI 1) (-1) (nI 0) mlog mlive had (nI 0) (-1) (nI 0) (nI 0) (nI 0) pg pla sou fou) := hD
  refine lv_iload_n hx hb d_M_state_5 rfl (lv_at hl 1 rfl) ?_
  refine lv_topi (fun sx esx => ?_)
  rcases sw_in sx 8 with hsw | ⟨j, hj, ej⟩
  ·
    refine lv_tableOut (tgt := 109) hx hb d_M_state_6 hsw (by decide) ?_
    refine lv_iconst (v := (-1)) hx hb d_M_state_109 (by decide) ?_
    exact W.iret (v := (-1)) hx hb hr (fun t ht hW => ⟨⟨(-1), (), rfl, by rw [← esx]; exact (stv_out hsw).symm, ⟨by rw [ht]; exact hP, va_K.moved hW.alike hK, hD⟩⟩, hS.F ht⟩) hS.2.2 d_M_state_110
  ·
    rcases (show j = 0 ∨ j = 1 ∨ j = 2 ∨ j = 3 ∨ j = 4 ∨ j = 5 ∨ j = 6 ∨ j = 7 ∨ j = 8 by omega) with rfl | rfl | rfl | rfl | rfl | rfl | rfl | rfl | rfl
    ·
      subst ej
      refine lv_tableIn (off := 50) (tgt := 56) hx hb d_M_state_6 (by decide) (by decide) rfl (by decide) ?_
      refine lv_aload_n hx hb d_M_state_56 rfl (lv_at hl 0 rfl) ?_
      refine va_get (D := (dC, dI)) (ci := 5) (v := .int (nI 0)) (C := R_M) (T := F_M) (N := 20) hx hb hts (fun w h => List.mem_cons_of_mem _ (in_M w h)) hown hK hP 0 rfl rfl 7 (by decide) (hts (.fieldLink R_M 52 R_M "records" "I") (List.mem_cons_of_mem _ t_719)) (fun _ h9 => h9) rfl d_M_state_57 ?_
      exact W.iret (v := nI 0) hx hb hr (fun t ht hW => ⟨⟨nI 0, (), rfl, by rw [← esx]; decide, ⟨by rw [ht]; exact hP, va_K.moved hW.alike hK, hD⟩⟩, hS.F ht⟩) hS.2.2 d_M_state_60
    ·
      subst ej
      refine lv_tableIn (off := 55) (tgt := 61) hx hb d_M_state_6 (by decide) (by decide) rfl (by decide) ?_
      refine lv_aload_n hx hb d_M_state_61 rfl (lv_at hl 0 rfl) ?_
      refine vp_callSi (va_runV (C := R_M) (As := []) (rest := []) ⟨hx, hb, hml, hown, hts⟩ (c_M_durable_f l dC dI am cm (nI 0) mw mwr mfl mact (nI 1) (-1) (nI 0) mlog mlive had (nI 0) (-1) (nI 0) (nI 0) (nI 0) pg pla sou fou  (hmv)) (cwV 0 hts (g_V t_894 t_896 s_44 t_6 t_897) rfl rfl rfl (by decide +kernel) ⟨by decide, by decide⟩) (xR_v hP hK 0 rfl rfl) rfl rfl hl.1 rfl (lv_room (Nat.le_of_ble_eq_true rfl)) d_M_state_62 ⟨Nat.le_refl _, Nat.le_refl _⟩).run (fun r62 q62 => ?_)
      subst q62
      exact W.iret (v := nI 0) hx hb hr (fun t ht hW => ⟨⟨nI 0, (), rfl, by rw [← esx]; decide, ⟨by rw [ht]; exact hP, va_K.moved hW.alike hK, hD⟩⟩, hS.F ht⟩) hS.2.2 d_M_state_65
    ·
      subst ej
      refine lv_tableIn (off := 60) (tgt := 66) hx hb d_M_state_6 (by decide) (by decide) rfl (by decide) ?_
      refine lv_aload_n hx hb d_M_state_66 rfl (lv_at hl 0 rfl) ?_
      refine vp_callSi (va_runV (C := R_M) (As := []) (rest := []) ⟨hx, hb, hml, hown, hts⟩ (c_M_tickets_f l dC dI am cm (nI 0) mw mwr mfl mact (nI 1) (-1) (nI 0) mlog mlive had (nI 0) (-1) (nI 0) (nI 0) (nI 0) pg pla sou fou  ) (cwV 0 hts (g_V t_865 t_867 s_39 t_6 t_868) rfl rfl rfl (by decide +kernel) ⟨by decide, by decide⟩) (xR_v hP hK 0 rfl rfl) rfl rfl hl.1 rfl (lv_room (Nat.le_of_ble_eq_true rfl)) d_M_state_67 ⟨Nat.le_refl _, Nat.le_refl _⟩).run (fun r67 q67 => ?_)
      subst q67
      exact W.iret (v := nI 0) hx hb hr (fun t ht hW => ⟨⟨nI 0, (), rfl, by rw [← esx]; decide, ⟨by rw [ht]; exact hP, va_K.moved hW.alike hK, hD⟩⟩, hS.F ht⟩) hS.2.2 d_M_state_70
    ·
      subst ej
      refine lv_tableIn (off := 65) (tgt := 71) hx hb d_M_state_6 (by decide) (by decide) rfl (by decide) ?_
      refine lv_aload_n hx hb d_M_state_71 rfl (lv_at hl 0 rfl) ?_
      refine vp_callSi (va_runV (C := R_M) (As := []) (rest := []) ⟨hx, hb, hml, hown, hts⟩ (c_M_liveCount_f l dC dI am cm (nI 0) mw mwr mfl mact (nI 1) (-1) (nI 0) mlog mlive had (nI 0) (-1) (nI 0) (nI 0) (nI 0) pg pla sou fou  (hmv)) (cwV 0 hts (g_V t_990 t_992 s_52 t_6 t_993) rfl rfl rfl (by decide +kernel) ⟨by decide, by decide⟩) (xR_v hP hK 0 rfl rfl) rfl rfl hl.1 rfl (lv_room (Nat.le_of_ble_eq_true rfl)) d_M_state_72 ⟨Nat.le_refl _, Nat.le_refl _⟩).run (fun r72 q72 => ?_)
      subst q72
      exact W.iret (v := nI 0) hx hb hr (fun t ht hW => ⟨⟨nI 0, (), rfl, by rw [← esx]; decide, ⟨by rw [ht]; exact hP, va_K.moved hW.alike hK, hD⟩⟩, hS.F ht⟩) hS.2.2 d_M_state_75
    ·
      subst ej
      refine lv_tableIn (off := 70) (tgt := 76) hx hb d_M_state_6 (by decide) (by decide) rfl (by decide) ?_
      refine lv_aload_n hx hb d_M_state_76 rfl (lv_at hl 0 rfl) ?_
      refine va_get (D := (dC, dI)) (ci := 5) (v := .int (nI 0)) (C := R_M) (T := F_M) (N := 20) hx hb hts (fun w h => List.mem_cons_of_mem _ (in_M w h)) hown hK hP 0 rfl rfl 13 (by decide) (hts (.fieldLink R_M 58 R_M "readings" "I") (List.mem_cons_of_mem _ t_725)) (fun _ h9 => h9) rfl d_M_state_77 ?_
      exact W.iret (v := nI 0) hx hb hr (fun t ht hW => ⟨⟨nI 0, (), rfl, by rw [← esx]; decide, ⟨by rw [ht]; exact hP, va_K.moved hW.alike hK, hD⟩⟩, hS.F ht⟩) hS.2.2 d_M_state_80
    ·
      subst ej
      refine lv_tableIn (off := 75) (tgt := 81) hx hb d_M_state_6 (by decide) (by decide) rfl (by decide) ?_
      refine lv_aload_n hx hb d_M_state_81 rfl (lv_at hl 0 rfl) ?_
      refine va_get (D := (dC, dI)) (ci := 5) (v := .int (nI 0)) (C := R_M) (T := F_M) (N := 20) hx hb hts (fun w h => List.mem_cons_of_mem _ (in_M w h)) hown hK hP 0 rfl rfl 11 (by decide) (hts (.fieldLink R_M 55 R_M "serial" "I") (List.mem_cons_of_mem _ t_723)) (fun _ h9 => h9) rfl d_M_state_82 ?_
      exact W.iret (v := nI 0) hx hb hr (fun t ht hW => ⟨⟨nI 0, (), rfl, by rw [← esx]; decide, ⟨by rw [ht]; exact hP, va_K.moved hW.alike hK, hD⟩⟩, hS.F ht⟩) hS.2.2 d_M_state_85
    ·
      subst ej
      refine lv_tableIn (off := 80) (tgt := 86) hx hb d_M_state_6 (by decide) (by decide) rfl (by decide) ?_
      refine lv_aload_n hx hb d_M_state_86 rfl (lv_at hl 0 rfl) ?_
      refine va_get (D := (dC, dI)) (ci := 5) (v := .int (-1)) (C := R_M) (T := F_M) (N := 20) hx hb hts (fun w h => List.mem_cons_of_mem _ (in_M w h)) hown hK hP 0 rfl rfl 12 (by decide) (hts (.fieldLink R_M 40 R_M "cursor" "I") (List.mem_cons_of_mem _ t_724)) (fun _ h9 => h9) rfl d_M_state_87 ?_
      exact W.iret (v := (-1)) hx hb hr (fun t ht hW => ⟨⟨(-1), (), rfl, by rw [← esx]; decide, ⟨by rw [ht]; exact hP, va_K.moved hW.alike hK, hD⟩⟩, hS.F ht⟩) hS.2.2 d_M_state_90
    ·
      subst ej
      refine lv_tableIn (off := 85) (tgt := 91) hx hb d_M_state_6 (by decide) (by decide) rfl (by decide) ?_
      refine lv_aload_n hx hb d_M_state_91 rfl (lv_at hl 0 rfl) ?_
      refine vp_callSi (va_runV (C := R_M) (As := []) (rest := []) ⟨hx, hb, hml, hown, hts⟩ (c_M_freePages_f l dC dI am cm (nI 0) mw mwr mfl mact (nI 1) (-1) (nI 0) mlog mlive had (nI 0) (-1) (nI 0) (nI 0) (nI 0) pg pla sou fou  (hmw) (hmf)) (cwV 0 hts (g_V t_994 t_996 s_53 t_6 t_997) rfl rfl rfl (by decide +kernel) ⟨by decide, by decide⟩) (xR_v hP hK 0 rfl rfl) rfl rfl hl.1 rfl (lv_room (Nat.le_of_ble_eq_true rfl)) d_M_state_92 ⟨Nat.le_refl _, Nat.le_refl _⟩).run (fun r92 q92 => ?_)
      subst q92
      exact W.iret (v := nI 32) hx hb hr (fun t ht hW => ⟨⟨nI 32, (), rfl, by rw [← esx]; decide, ⟨by rw [ht]; exact hP, va_K.moved hW.alike hK, hD⟩⟩, hS.F ht⟩) hS.2.2 d_M_state_95
    ·
      subst ej
      refine lv_tableIn (off := 90) (tgt := 96) hx hb d_M_state_6 (by decide) (by decide) rfl (by decide) ?_
      refine lv_aload_n hx hb d_M_state_96 rfl (lv_at hl 0 rfl) ?_
      refine va_get (D := (dC, dI)) (ci := 5) (v := .int (nI 1)) (C := R_M) (T := F_M) (N := 20) hx hb hts (fun w h => List.mem_cons_of_mem _ (in_M w h)) hown hK hP 0 rfl rfl 5 (by decide) (hts (.fieldLink R_M 23 R_M "on" "Z") (List.mem_cons_of_mem _ t_717)) (fun _ h9 => h9) rfl d_M_state_97 ?_
      refine lv_if_eq (tgt := 107) hx hb d_M_state_100 (by decide) (fun c100 => ?_) (fun c100 => ?_)
      ·
        exact absurd c100 (by decide)
      ·
        refine lv_iconst (v := nI 1) hx hb d_M_state_103 (by decide) ?_
        refine lv_goto (tgt := 108) hx hb d_M_state_104 (by decide) ?_
        exact W.iret (v := nI 1) hx hb hr (fun t ht hW => ⟨⟨nI 1, (), rfl, by rw [← esx]; decide, ⟨by rw [ht]; exact hP, va_K.moved hW.alike hK, hD⟩⟩, hS.F ht⟩) hS.2.2 d_M_state_108
end
section
set_option maxHeartbeats 4000000 in
set_option maxRecDepth 100000 in
theorem c_R_requireArgument_1 (l : Launch) (dC : Nat → ClassId) (dI : Nat → Nat → Nat)   : Met l y_R_requireArgument w_R_requireArgument ({ frames := 0, cells := 0, slots := 0, locals := 0 }) (xR (dC, dI) vwCl [] [] [.int (nI 1)]) (va_Sv (fun _ => True)) 0 0 (fun _ => False) := by
  refine Met.ofW (cc := b_R_requireArgument) (maxL := 1) (ret := none) (by decide) rfl ?_
  intro P e s m args below meth c0 s₁ B hml hv
  obtain ⟨rfl, hP, hK⟩ := hv
  have hx := B.exec
  have hb := B.bytes
  have hr := B.returns
  have hts := atoms_spec (ws := w_R_requireArgument) B.pre
  have hown : s.vm.findClass R_R = some m.cls := findClass_of_methodNamed B.named
  have hlocks := B.notSynchronized
  have hl := lv_entry ([.int (nI 1)]) (n := 1) (Nat.le_of_ble_eq_true rfl)
  rw [lg_entry_eq]
  generalize (lg_sl ([.int (nI 1)]) ++ List.replicate (1 - (lg_sl ([.int (nI 1)])).length) Slot.unset).toArray = ls at hl ⊢
  have hl : lv_has ls 1 [(0, .int (nI 1))] := hl
  refine lv_iload_n hx hb d_R_requireArgument_0 rfl (lv_at hl 0 rfl) ?_
  refine lv_if_ne (tgt := 12) hx hb d_R_requireArgument_1 (by decide) (fun c1 => ?_) (fun c1 => ?_)
  ·
    exact W.vret hx hb hr (fun t ht hW => ⟨rfl, by first | rfl | trivial | omega, ht⟩) (fun q hq => by cases hq) d_R_requireArgument_12
  ·
    exact absurd c1 (by decide)
set_option maxHeartbeats 4000000 in
set_option maxRecDepth 100000 in
theorem c_R_requireState_1 (l : Launch) (dC : Nat → ClassId) (dI : Nat → Nat → Nat)   : Met l y_R_requireState w_R_requireState ({ frames := 0, cells := 0, slots := 0, locals := 0 }) (xR (dC, dI) vwCl [] [] [.int (nI 1)]) (va_Sv (fun _ => True)) 0 0 (fun _ => False) := by
  refine Met.ofW (cc := b_R_requireState) (maxL := 1) (ret := none) (by decide) rfl ?_
  intro P e s m args below meth c0 s₁ B hml hv
  obtain ⟨rfl, hP, hK⟩ := hv
  have hx := B.exec
  have hb := B.bytes
  have hr := B.returns
  have hts := atoms_spec (ws := w_R_requireState) B.pre
  have hown : s.vm.findClass R_R = some m.cls := findClass_of_methodNamed B.named
  have hlocks := B.notSynchronized
  have hl := lv_entry ([.int (nI 1)]) (n := 1) (Nat.le_of_ble_eq_true rfl)
  rw [lg_entry_eq]
  generalize (lg_sl ([.int (nI 1)]) ++ List.replicate (1 - (lg_sl ([.int (nI 1)])).length) Slot.unset).toArray = ls at hl ⊢
  have hl : lv_has ls 1 [(0, .int (nI 1))] := hl
  refine lv_iload_n hx hb d_R_requireState_0 rfl (lv_at hl 0 rfl) ?_
  refine lv_if_ne (tgt := 12) hx hb d_R_requireState_1 (by decide) (fun c1 => ?_) (fun c1 => ?_)
  ·
    exact W.vret hx hb hr (fun t ht hW => ⟨rfl, by first | rfl | trivial | omega, ht⟩) (fun q hq => by cases hq) d_R_requireState_12
  ·
    exact absurd c1 (by decide)
set_option maxHeartbeats 4000000 in
set_option maxRecDepth 100000 in
theorem c_R_requireIndex_1 (l : Launch) (dC : Nat → ClassId) (dI : Nat → Nat → Nat)   : Met l y_R_requireIndex w_R_requireIndex ({ frames := 0, cells := 0, slots := 0, locals := 0 }) (xR (dC, dI) vwCl [] [] [.int (nI 1)]) (va_Sv (fun _ => True)) 0 0 (fun _ => False) := by
  refine Met.ofW (cc := b_R_requireIndex) (maxL := 1) (ret := none) (by decide) rfl ?_
  intro P e s m args below meth c0 s₁ B hml hv
  obtain ⟨rfl, hP, hK⟩ := hv
  have hx := B.exec
  have hb := B.bytes
  have hr := B.returns
  have hts := atoms_spec (ws := w_R_requireIndex) B.pre
  have hown : s.vm.findClass R_R = some m.cls := findClass_of_methodNamed B.named
  have hlocks := B.notSynchronized
  have hl := lv_entry ([.int (nI 1)]) (n := 1) (Nat.le_of_ble_eq_true rfl)
  rw [lg_entry_eq]
  generalize (lg_sl ([.int (nI 1)]) ++ List.replicate (1 - (lg_sl ([.int (nI 1)])).length) Slot.unset).toArray = ls at hl ⊢
  have hl : lv_has ls 1 [(0, .int (nI 1))] := hl
  refine lv_iload_n hx hb d_R_requireIndex_0 rfl (lv_at hl 0 rfl) ?_
  refine lv_if_ne (tgt := 12) hx hb d_R_requireIndex_1 (by decide) (fun c1 => ?_) (fun c1 => ?_)
  ·
    exact W.vret hx hb hr (fun t ht hW => ⟨rfl, by first | rfl | trivial | omega, ht⟩) (fun q hq => by cases hq) d_R_requireIndex_12
  ·
    exact absurd c1 (by decide)
set_option maxRecDepth 100000 in
theorem zA_A : ((Bundle.ownAtoms0 R_R 212 E_A e_up).filter goodWord).all (fun w => decide (w ∈ lw_tbl)) = true := by decide +kernel
set_option maxRecDepth 100000 in
theorem zB_A : ((Bundle.ownAtoms0 R_R 212 E_A e_up).filter (fun w => !goodWord w)).all (fun w => decide (w ∈ zrest E_A)) = true := by decide +kernel
set_option maxHeartbeats 4000000 in
set_option maxRecDepth 100000 in
theorem th_R_requireArgument (l : Launch) (hl9 : l.stackTraces = false) (az : Nat) : Thr l y_R_requireArgument w_R_requireArgument ({ frames := 6, cells := 1, slots := 6, locals := 100 }) (tP az [.int (nI 0)]) E_A := by
  refine Thr.ofW (cc := b_R_requireArgument) (maxL := 1) (ret := none) (by decide) rfl ?_
  intro P e s m args below meth c0 s₁ B hml hnt hv
  obtain ⟨rfl, hz, hn⟩ := hv
  have hx := B.exec
  have hb := B.bytes
  have hr := B.returns
  have hts := atoms_spec (ws := w_R_requireArgument) B.pre
  have hown : s.vm.findClass R_R = some m.cls := findClass_of_methodNamed B.named
  have hlocks := B.notSynchronized
  have hl := lv_entry ([.int (nI 0)]) (n := 1) (Nat.le_of_ble_eq_true rfl)
  rw [lg_entry_eq]
  generalize (lg_sl ([.int (nI 0)]) ++ List.replicate (1 - (lg_sl ([.int (nI 0)])).length) Slot.unset).toArray = ls at hl ⊢
  have hl : lv_has ls 1 [(0, .int (nI 0))] := hl
  refine lv_iload_n hx hb d_R_requireArgument_0 rfl (lv_at hl 0 rfl) ?_
  refine lv_if_ne (tgt := 12) hx hb d_R_requireArgument_1 (by decide) (fun c1 => absurd rfl c1) (fun c1 => ?_)
  exact th_new hx hb hl9 hown (by decide +kernel) (by decide +kernel) (hts _ (List.mem_cons_of_mem _ t_275)) (hts _ (List.mem_cons_of_mem _ t_10)) (own_all zA_A zB_A hts hz hn.1.1 hn.2) (hl.1.trans hml.symm) d_R_requireArgument_4 d_R_requireArgument_7 d_R_requireArgument_8 d_R_requireArgument_11 hnt (by decide) (by decide) (by decide) (by decide) hlocks
set_option maxRecDepth 100000 in
theorem zA_S : ((Bundle.ownAtoms0 R_R 215 E_S e_up).filter goodWord).all (fun w => decide (w ∈ lw_tbl)) = true := by decide +kernel
set_option maxRecDepth 100000 in
theorem zB_S : ((Bundle.ownAtoms0 R_R 215 E_S e_up).filter (fun w => !goodWord w)).all (fun w => decide (w ∈ zrest E_S)) = true := by decide +kernel
set_option maxHeartbeats 4000000 in
set_option maxRecDepth 100000 in
theorem th_R_requireState (l : Launch) (hl9 : l.stackTraces = false) (az : Nat) : Thr l y_R_requireState w_R_requireState ({ frames := 6, cells := 1, slots := 6, locals := 100 }) (tP az [.int (nI 0)]) E_S := by
  refine Thr.ofW (cc := b_R_requireState) (maxL := 1) (ret := none) (by decide) rfl ?_
  intro P e s m args below meth c0 s₁ B hml hnt hv
  obtain ⟨rfl, hz, hn⟩ := hv
  have hx := B.exec
  have hb := B.bytes
  have hr := B.returns
  have hts := atoms_spec (ws := w_R_requireState) B.pre
  have hown : s.vm.findClass R_R = some m.cls := findClass_of_methodNamed B.named
  have hlocks := B.notSynchronized
  have hl := lv_entry ([.int (nI 0)]) (n := 1) (Nat.le_of_ble_eq_true rfl)
  rw [lg_entry_eq]
  generalize (lg_sl ([.int (nI 0)]) ++ List.replicate (1 - (lg_sl ([.int (nI 0)])).length) Slot.unset).toArray = ls at hl ⊢
  have hl : lv_has ls 1 [(0, .int (nI 0))] := hl
  refine lv_iload_n hx hb d_R_requireState_0 rfl (lv_at hl 0 rfl) ?_
  refine lv_if_ne (tgt := 12) hx hb d_R_requireState_1 (by decide) (fun c1 => absurd rfl c1) (fun c1 => ?_)
  exact th_new hx hb hl9 hown (by decide +kernel) (by decide +kernel) (hts _ (List.mem_cons_of_mem _ t_341)) (hts _ (List.mem_cons_of_mem _ t_11)) (own_all zA_S zB_S hts hz hn.1.2.1 hn.2) (hl.1.trans hml.symm) d_R_requireState_4 d_R_requireState_7 d_R_requireState_8 d_R_requireState_11 hnt (by decide) (by decide) (by decide) (by decide) hlocks
set_option maxRecDepth 100000 in
theorem zA_I : ((Bundle.ownAtoms0 R_R 218 E_I e_up).filter goodWord).all (fun w => decide (w ∈ lw_tbl)) = true := by decide +kernel
set_option maxRecDepth 100000 in
theorem zB_I : ((Bundle.ownAtoms0 R_R 218 E_I e_up).filter (fun w => !goodWord w)).all (fun w => decide (w ∈ zrest E_I)) = true := by decide +kernel
set_option maxHeartbeats 4000000 in
set_option maxRecDepth 100000 in
theorem th_R_requireIndex (l : Launch) (hl9 : l.stackTraces = false) (az : Nat) : Thr l y_R_requireIndex w_R_requireIndex ({ frames := 6, cells := 1, slots := 6, locals := 100 }) (tP az [.int (nI 0)]) E_I := by
  refine Thr.ofW (cc := b_R_requireIndex) (maxL := 1) (ret := none) (by decide) rfl ?_
  intro P e s m args below meth c0 s₁ B hml hnt hv
  obtain ⟨rfl, hz, hn⟩ := hv
  have hx := B.exec
  have hb := B.bytes
  have hr := B.returns
  have hts := atoms_spec (ws := w_R_requireIndex) B.pre
  have hown : s.vm.findClass R_R = some m.cls := findClass_of_methodNamed B.named
  have hlocks := B.notSynchronized
  have hl := lv_entry ([.int (nI 0)]) (n := 1) (Nat.le_of_ble_eq_true rfl)
  rw [lg_entry_eq]
  generalize (lg_sl ([.int (nI 0)]) ++ List.replicate (1 - (lg_sl ([.int (nI 0)])).length) Slot.unset).toArray = ls at hl ⊢
  have hl : lv_has ls 1 [(0, .int (nI 0))] := hl
  refine lv_iload_n hx hb d_R_requireIndex_0 rfl (lv_at hl 0 rfl) ?_
  refine lv_if_ne (tgt := 12) hx hb d_R_requireIndex_1 (by decide) (fun c1 => absurd rfl c1) (fun c1 => ?_)
  exact th_new hx hb hl9 hown (by decide +kernel) (by decide +kernel) (hts _ (List.mem_cons_of_mem _ t_494)) (hts _ (List.mem_cons_of_mem _ t_12)) (own_all zA_I zB_I hts hz hn.1.2.2 hn.2) (hl.1.trans hml.symm) d_R_requireIndex_4 d_R_requireIndex_7 d_R_requireIndex_8 d_R_requireIndex_11 hnt (by decide) (by decide) (by decide) (by decide) hlocks
end
section
set_option maxHeartbeats 4000000 in
set_option maxRecDepth 100000 in
theorem c_R_isProduct (l : Launch) (dC : Nat → ClassId) (dI : Nat → Nat → Nat)  (v : Int32) : Met l y_R_isProduct w_R_isProduct ({ frames := 1, cells := 0, slots := 0, locals := 22 }) (xR (dC, dI) vwCl [] [] [.int v]) (vp_Si (fun r => (r = 1 ∧ (nI 0 ≤ v ∧ v ≤ nI 39)) ∨ (r = 0 ∧ ¬ (nI 0 ≤ v ∧ v ≤ nI 39)))) 0 0 (fun _ => False) := by
  refine Met.ofW (cc := b_R_isProduct) (maxL := 1) (ret := (some (.boolean))) (by decide) rfl ?_
  intro P e s m args below meth c0 s₁ B hml hv
  obtain ⟨rfl, hP, hK⟩ := hv
  have hx := B.exec
  have hb := B.bytes
  have hr := B.returns
  have hts := atoms_spec (ws := w_R_isProduct) B.pre
  have hown : s.vm.findClass R_R = some m.cls := findClass_of_methodNamed B.named
  have hlocks := B.notSynchronized
  have hl := lv_entry ([.int v]) (n := 1) (Nat.le_of_ble_eq_true rfl)
  rw [lg_entry_eq]
  generalize (lg_sl ([.int v]) ++ List.replicate (1 - (lg_sl ([.int v])).length) Slot.unset).toArray = ls at hl ⊢
  have hl : lv_has ls 1 [(0, .int v)] := hl
  refine lv_iload_n hx hb d_R_isProduct_0 rfl (lv_at hl 0 rfl) ?_
  refine lv_iconst (v := nI 0) hx hb d_R_isProduct_1 (by decide) ?_
  refine lv_bipush (v := nI 39) hx hb d_R_isProduct_2 (by decide) ?_
  refine vp_callSi (va_runS (As := [.int v, .int (nI 0), .int (nI 39)]) (rest := []) ⟨hx, hb, hml, hown, hts⟩ (c_R_isWithin l dC dI v (nI 0) (nI 39) ) (cwS 3 hts (g_S t_271 t_207 t_1 t_208) rfl rfl rfl (by decide +kernel) ⟨by decide, by decide⟩) (xR_s (va_P.sub hP [] rfl) (hK.sub [] rfl)) rfl rfl hl.1 rfl (lv_room (Nat.le_of_ble_eq_true rfl)) d_R_isProduct_4 ⟨Nat.le_refl _, Nat.le_refl _⟩).run (fun r4 q4 => ?_)
  exact W.zret (v := r4) hx hb hr (by rcases q4 with ⟨h, -⟩ | ⟨h, -⟩ <;> rw [h] <;> rfl) (fun t ht hW => ⟨r4, rfl, q4, ht⟩) (fun q hq => by cases hq) d_R_isProduct_7
set_option maxHeartbeats 4000000 in
set_option maxRecDepth 100000 in
theorem c_R_isPlace (l : Launch) (dC : Nat → ClassId) (dI : Nat → Nat → Nat)  (v k : Int32) : Met l y_R_isPlace w_R_isPlace ({ frames := 1, cells := 0, slots := 0, locals := 22 }) (xR (dC, dI) vwCl [] [] [.int v, .int k]) (vp_Si (fun r => (r = 1 ∧ ((nI 0 ≤ v ∧ v ≤ nI 31) ∧ (nI 0 ≤ k ∧ k ≤ nI 15))) ∨ (r = 0 ∧ ¬ ((nI 0 ≤ v ∧ v ≤ nI 31) ∧ (nI 0 ≤ k ∧ k ≤ nI 15))))) 0 0 (fun _ => False) := by
  refine Met.ofW (cc := b_R_isPlace) (maxL := 2) (ret := (some (.boolean))) (by decide) rfl ?_
  intro P e s m args below meth c0 s₁ B hml hv
  obtain ⟨rfl, hP, hK⟩ := hv
  have hx := B.exec
  have hb := B.bytes
  have hr := B.returns
  have hts := atoms_spec (ws := w_R_isPlace) B.pre
  have hown : s.vm.findClass R_R = some m.cls := findClass_of_methodNamed B.named
  have hlocks := B.notSynchronized
  have hl := lv_entry ([.int v, .int k]) (n := 2) (Nat.le_of_ble_eq_true rfl)
  rw [lg_entry_eq]
  generalize (lg_sl ([.int v, .int k]) ++ List.replicate (2 - (lg_sl ([.int v, .int k])).length) Slot.unset).toArray = ls at hl ⊢
  have hl : lv_has ls 2 [(0, .int v), (1, .int k)] := hl
  refine lv_iload_n hx hb d_R_isPlace_0 rfl (lv_at hl 0 rfl) ?_
  refine lv_iconst (v := nI 0) hx hb d_R_isPlace_1 (by decide) ?_
  refine lv_bipush (v := nI 31) hx hb d_R_isPlace_2 (by decide) ?_
  refine vp_callSi (va_runS (As := [.int v, .int (nI 0), .int (nI 31)]) (rest := []) ⟨hx, hb, hml, hown, hts⟩ (c_R_isWithin l dC dI v (nI 0) (nI 31) ) (cwS 3 hts (g_S t_271 t_207 t_1 t_208) rfl rfl rfl (by decide +kernel) ⟨by decide, by decide⟩) (xR_s (va_P.sub hP [] rfl) (hK.sub [] rfl)) rfl rfl hl.1 rfl (lv_room (Nat.le_of_ble_eq_true rfl)) d_R_isPlace_4 ⟨Nat.le_refl _, Nat.le_refl _⟩).run (fun r4 q4 => ?_)
  rcases q4 with ⟨rfl, h4⟩ | ⟨rfl, h4⟩
  ·
    refine lv_if_eq (tgt := 24) hx hb d_R_isPlace_7 (by decide) (fun c7 => ?_) (fun c7 => ?_)
    ·
      exact absurd c7 (by decide)
    ·
      refine lv_iload_n hx hb d_R_isPlace_10 rfl (lv_at hl 1 rfl) ?_
      refine lv_iconst (v := nI 0) hx hb d_R_isPlace_11 (by decide) ?_
      refine lv_bipush (v := nI 15) hx hb d_R_isPlace_12 (by decide) ?_
      refine vp_callSi (va_runS (As := [.int k, .int (nI 0), .int (nI 15)]) (rest := []) ⟨hx, hb, hml, hown, hts⟩ (c_R_isWithin l dC dI k (nI 0) (nI 15) ) (cwS 3 hts (g_S t_271 t_207 t_1 t_208) rfl rfl rfl (by decide +kernel) ⟨by decide, by decide⟩) (xR_s (va_P.sub hP [] rfl) (hK.sub [] rfl)) rfl rfl hl.1 rfl (lv_room (Nat.le_of_ble_eq_true rfl)) d_R_isPlace_14 ⟨Nat.le_refl _, Nat.le_refl _⟩).run (fun r14 q14 => ?_)
      rcases q14 with ⟨rfl, h14⟩ | ⟨rfl, h14⟩
      ·
        refine lv_if_eq (tgt := 24) hx hb d_R_isPlace_17 (by decide) (fun c17 => ?_) (fun c17 => ?_)
        ·
          exact absurd c17 (by decide)
        ·
          refine lv_iconst (v := 1) hx hb d_R_isPlace_20 (by decide) ?_
          refine lv_goto (tgt := 25) hx hb d_R_isPlace_21 (by decide) ?_
          exact W.zret (v := 1) hx hb hr (by first | rfl | decide | assumption) (fun t ht hW => ⟨1, rfl, by first | exact Or.inl ⟨rfl, h4, h14⟩ | exact Or.inr ⟨rfl, fun z => h14 z.2⟩ | exact Or.inr ⟨rfl, fun z => h4 z.1⟩, ht⟩) (fun q hq => by cases hq) d_R_isPlace_25
      ·
        refine lv_if_eq (tgt := 24) hx hb d_R_isPlace_17 (by decide) (fun c17 => ?_) (fun c17 => ?_)
        ·
          refine lv_iconst (v := 0) hx hb d_R_isPlace_24 (by decide) ?_
          exact W.zret (v := 0) hx hb hr (by first | rfl | decide | assumption) (fun t ht hW => ⟨0, rfl, by first | exact Or.inl ⟨rfl, h4, h14⟩ | exact Or.inr ⟨rfl, fun z => h14 z.2⟩ | exact Or.inr ⟨rfl, fun z => h4 z.1⟩, ht⟩) (fun q hq => by cases hq) d_R_isPlace_25
        ·
          exact absurd c17 (by decide)
  ·
    refine lv_if_eq (tgt := 24) hx hb d_R_isPlace_7 (by decide) (fun c7 => ?_) (fun c7 => ?_)
    ·
      refine lv_iconst (v := 0) hx hb d_R_isPlace_24 (by decide) ?_
      exact W.zret (v := 0) hx hb hr (by first | rfl | decide | assumption) (fun t ht hW => ⟨0, rfl, by first | exact Or.inl ⟨rfl, h4, h14⟩ | exact Or.inr ⟨rfl, fun z => h14 z.2⟩ | exact Or.inr ⟨rfl, fun z => h4 z.1⟩, ht⟩) (fun q hq => by cases hq) d_R_isPlace_25
    ·
      exact absurd c7 (by decide)
set_option maxHeartbeats 4000000 in
set_option maxRecDepth 100000 in
theorem c_R_axle_ok (l : Launch) (dC : Nat → ClassId) (dI : Nat → Nat → Nat) (ad cd : Nat → Nat) (sz : Nat) (w wr fl : Nat → Int32) (pw sc : Int32) (lw rot vb : Nat → Int32) (rec tk : Int32) (live row : Nat → Int32) (cur ser dur wo : Int32) (bts : Nat → Int32) (us : Int32) (act : Nat → Int32) (rd rs : Int32) (st : Int32) (hok : (nI 1 ≤ st ∧ st ≤ nI 1200)) : Met l y_R_axle w_R_axle ({ frames := 1, cells := 0, slots := 0, locals := 22 }) (xP (dC, dI) vwCl (xt cd) (xw ad cd w wr fl (nI 1) (-1) lw rot vb (nI 0) (nI 0) live row (-1) (nI 0) (nI 0) (nI 0) bts (nI 0) act (nI 0) (nI 0)) sz [.ref (ad 0), .int st]) (va_Qi (fun r (u : Unit) => r = nI 1) (fun (u : Unit) (t : State) => xB (dC, dI) vwCl (xt cd) (xA 15 ad sz) (xw ad cd w wr fl (nI 1) (-1) lw rot vb (nI 0) (nI 0) live row (-1) (nI 0) (nI 0) (nI 0) bts (nI 0) act (nI (0 + 1)) (nI 0 + st)) t) (xA 15 ad sz)) 0 0 (xA 15 ad sz) := by
  refine Met.ofW (cc := b_R_axle) (maxL := 2) (ret := (some (.int))) (by decide) rfl ?_
  intro P e s m args below meth c0 s₁ B hml hv
  obtain ⟨rfl, hsz, hP, hK, hD0⟩ := hv
  have hx := B.exec
  have hb := B.bytes
  have hr := B.returns
  have hts := atoms_spec (ws := w_R_axle) B.pre
  have hown : s.vm.findClass R_R = some m.cls := findClass_of_methodNamed B.named
  have hlocks := B.notSynchronized
  subst hsz
  have hD := xw_D (sz := s.heap.size) hD0
  have hS : va_S (xA 15 ad s.heap.size) s.heap s.heap [] := va_S.rf
  have hA : ∀ q : Nat, s.heap.size ≤ q → (xA 15 ad s.heap.size) q := fun q h => Or.inr h
  have hl := lv_entry ([.ref (ad 0), .int st]) (n := 2) (Nat.le_of_ble_eq_true rfl)
  rw [lg_entry_eq]
  generalize (lg_sl ([.ref (ad 0), .int st]) ++ List.replicate (2 - (lg_sl ([.ref (ad 0), .int st])).length) Slot.unset).toArray = ls at hl ⊢
  have hl : lv_has ls 2 [(0, .ref (ad 0)), (1, .int st)] := hl
  refine lv_iload_n hx hb d_R_axle_0 rfl (lv_at hl 1 rfl) ?_
  refine lv_iconst (v := nI 1) hx hb d_R_axle_1 (by decide) ?_
  refine lv_sipush (v := nI 1200) hx hb d_R_axle_2 (by decide) ?_
  refine vp_callSi (va_runS (As := [.int st, .int (nI 1), .int (nI 1200)]) (rest := []) ⟨hx, hb, hml, hown, hts⟩ (c_R_isWithin l dC dI st (nI 1) (nI 1200) ) (cwS 3 hts (g_S t_271 t_207 t_1 t_208) rfl rfl rfl (by decide +kernel) ⟨by decide, by decide⟩) (xR_s (va_P.sub hP [] rfl) (hK.sub [] rfl)) rfl rfl hl.1 rfl (lv_room (Nat.le_of_ble_eq_true rfl)) d_R_axle_5 ⟨Nat.le_refl _, Nat.le_refl _⟩).run (fun r5 q5 => ?_)
  obtain ⟨rfl, -⟩ := q5.resolve_right (fun z => z.2 (hok))
  refine va_csv (va_runS (As := [.int (nI 1)]) (rest := []) ⟨hx, hb, hml, hown, hts⟩ (c_R_requireArgument_1 l dC dI  ) (cwS 1 hts (g_S t_272 t_273 t_1 t_274) rfl rfl rfl (by decide +kernel) ⟨by decide, by decide⟩) (xR_s (va_P.sub hP [] rfl) (hK.sub [] rfl)) rfl rfl hl.1 rfl (lv_room (Nat.le_of_ble_eq_true rfl)) d_R_axle_8 ⟨Nat.le_refl _, Nat.le_refl _⟩).run (fun q8 => ?_)
  refine lv_aload_n hx hb d_R_axle_11 rfl (lv_at hl 0 rfl) ?_
  refine va_get (D := (dC, dI)) (ci := 4) (v := .ref (ad 2)) (C := R_R) (T := F_R) (N := 7) hx hb hts (fun w h => List.mem_cons_of_mem _ (in_R w h)) hown hK hP 0 rfl rfl 1 (by decide) (hts (.fieldLink R_R 20 R_R "chip" "LWeighRecorder$Chip;") (List.mem_cons_of_mem _ t_115)) (fun _ h9 => h9) rfl d_R_axle_12 ?_
  refine vp_callSi (va_runV (C := R_C) (As := []) (rest := []) ⟨hx, hb, hml, hown, hts⟩ (c_C_isPowered l dC dI ad cd w wr fl (nI 1) (-1) lw rot vb (nI 0) (nI 0) live row (-1) (nI 0) (nI 0) (nI 0) bts (nI 0) act (nI 0) (nI 0)  (by first | omega | rfl | assumption | decide)) (cwV 0 hts (g_V t_225 t_226 t_227 t_3 t_228) rfl rfl rfl (by decide +kernel) ⟨by decide, by decide⟩) (xR_v hP hK 2 rfl rfl) rfl rfl hl.1 rfl (lv_room (Nat.le_of_ble_eq_true rfl)) d_R_axle_15 ⟨Nat.le_refl _, Nat.le_refl _⟩).run (fun r15 q15 => ?_)
  subst q15
  refine lv_if_eq (tgt := 34) hx hb d_R_axle_18 (by decide) (fun c18 => ?_) (fun c18 => ?_)
  ·
    exact absurd c18 (by decide)
  ·
    refine lv_aload_n hx hb d_R_axle_21 rfl (lv_at hl 0 rfl) ?_
    refine va_get (D := (dC, dI)) (ci := 4) (v := .int (nI 0)) (C := R_R) (T := F_R) (N := 7) hx hb hts (fun w h => List.mem_cons_of_mem _ (in_R w h)) hown hK hP 0 rfl rfl 5 (by decide) (hts (.fieldLink R_R 41 R_R "readings" "I") (List.mem_cons_of_mem _ t_119)) (fun _ h9 => h9) rfl d_R_axle_22 ?_
    refine lv_bipush (v := nI 9) hx hb d_R_axle_25 (by decide) ?_
    refine lv_icmp_ge (tgt := 34) hx hb d_R_axle_27 (by decide) (fun c27 => ?_) (fun c27 => ?_)
    ·
      exact absurd c27 (by decide)
    ·
      refine lv_iconst (v := nI 1) hx hb d_R_axle_30 (by decide) ?_
      refine lv_goto (tgt := 35) hx hb d_R_axle_31 (by decide) ?_
      refine va_csv (va_runS (As := [.int (nI 1)]) (rest := []) ⟨hx, hb, hml, hown, hts⟩ (c_R_requireState_1 l dC dI  ) (cwS 1 hts (g_S t_338 t_339 t_1 t_340) rfl rfl rfl (by decide +kernel) ⟨by decide, by decide⟩) (xR_s (va_P.sub hP [] rfl) (hK.sub [] rfl)) rfl rfl hl.1 rfl (lv_room (Nat.le_of_ble_eq_true rfl)) d_R_axle_35 ⟨Nat.le_refl _, Nat.le_refl _⟩).run (fun q35 => ?_)
      refine lv_aload_n hx hb d_R_axle_38 rfl (lv_at hl 0 rfl) ?_
      refine lv_dup hx hb d_R_axle_39 rfl ?_
      refine va_get (D := (dC, dI)) (ci := 4) (v := .int (nI 0)) (C := R_R) (T := F_R) (N := 7) hx hb hts (fun w h => List.mem_cons_of_mem _ (in_R w h)) hown hK hP 0 rfl rfl 5 (by decide) (hts (.fieldLink R_R 41 R_R "readings" "I") (List.mem_cons_of_mem _ t_119)) (fun _ h9 => h9) rfl d_R_axle_40 ?_
      refine lv_iconst (v := nI 1) hx hb d_R_axle_43 (by decide) ?_
      refine lv_iadd hx hb d_R_axle_44 ?_
      refine tp_i (y := nI (0 + 1)) (nI_add _ _) ?_
      refine va_put (D := (dC, dI)) (ci := 4) (v := .int (nI (0 + 1))) (ty := .int) (C := R_R) (T := F_R) (N := 7) hx hb hts (fun w h => List.mem_cons_of_mem _ (in_R w h)) t_R ok_R nm_R hown hK hP hD hS 0 rfl rfl 5 (by decide) (hts (.fieldLink R_R 41 R_R "readings" "I") (List.mem_cons_of_mem _ t_119)) (fun _ h9 => h9) rfl (by decide +kernel) rfl rfl (Nat.le_of_ble_eq_true rfl) d_R_axle_45 (fun H locs hP hD hS => ?_)
      have hP : va_P (dC, dI) vwCl (xw ad cd w wr fl (nI 1) (-1) lw rot vb (nI 0) (nI 0) live row (-1) (nI 0) (nI 0) (nI 0) bts (nI 0) act (nI (0 + 1)) (nI 0)) H := hP
      have hD : va_D (xA 15 ad s.heap.size) (xw ad cd w wr fl (nI 1) (-1) lw rot vb (nI 0) (nI 0) live row (-1) (nI 0) (nI 0) (nI 0) bts (nI 0) act (nI (0 + 1)) (nI 0)) := hD
      refine lv_aload_n hx hb d_R_axle_48 rfl (lv_at hl 0 rfl) ?_
      refine lv_dup hx hb d_R_axle_49 rfl ?_
      refine va_get (D := (dC, dI)) (ci := 4) (v := .int (nI 0)) (C := R_R) (T := F_R) (N := 7) hx hb hts (fun w h => List.mem_cons_of_mem _ (in_R w h)) hown hK hP 0 rfl rfl 6 (by decide) (hts (.fieldLink R_R 45 R_R "readSteps" "I") (List.mem_cons_of_mem _ t_120)) (fun _ h9 => h9) rfl d_R_axle_50 ?_
      refine lv_iload_n hx hb d_R_axle_53 rfl (lv_at hl 1 rfl) ?_
      refine lv_iadd hx hb d_R_axle_54 ?_
      refine va_put (D := (dC, dI)) (ci := 4) (v := .int ((nI 0) + st)) (ty := .int) (C := R_R) (T := F_R) (N := 7) hx hb hts (fun w h => List.mem_cons_of_mem _ (in_R w h)) t_R ok_R nm_R hown hK hP hD hS 0 rfl rfl 6 (by decide) (hts (.fieldLink R_R 45 R_R "readSteps" "I") (List.mem_cons_of_mem _ t_120)) (fun _ h9 => h9) rfl (by decide +kernel) rfl rfl (Nat.le_of_ble_eq_true rfl) d_R_axle_55 (fun H locs hP hD hS => ?_)
      have hP : va_P (dC, dI) vwCl (xw ad cd w wr fl (nI 1) (-1) lw rot vb (nI 0) (nI 0) live row (-1) (nI 0) (nI 0) (nI 0) bts (nI 0) act (nI (0 + 1)) ((nI 0) + st)) H := hP
      have hD : va_D (xA 15 ad s.heap.size) (xw ad cd w wr fl (nI 1) (-1) lw rot vb (nI 0) (nI 0) live row (-1) (nI 0) (nI 0) (nI 0) bts (nI 0) act (nI (0 + 1)) ((nI 0) + st)) := hD
      refine lv_aload_n hx hb d_R_axle_58 rfl (lv_at hl 0 rfl) ?_
      refine va_get (D := (dC, dI)) (ci := 4) (v := .int (nI (0 + 1))) (C := R_R) (T := F_R) (N := 7) hx hb hts (fun w h => List.mem_cons_of_mem _ (in_R w h)) hown hK hP 0 rfl rfl 5 (by decide) (hts (.fieldLink R_R 41 R_R "readings" "I") (List.mem_cons_of_mem _ t_119)) (fun _ h9 => h9) rfl d_R_axle_59 ?_
      exact W.iret (v := nI (0 + 1)) hx hb hr (fun t ht hW => ⟨⟨nI (0 + 1), (), rfl, by first | rfl | trivial | omega, ⟨by rw [ht]; exact hP, va_K.moved hW.alike hK, hD⟩⟩, hS.F ht⟩) hS.2.2 d_R_axle_62
set_option maxHeartbeats 4000000 in
set_option maxRecDepth 100000 in
theorem c_R_close_ok (l : Launch) (dC : Nat → ClassId) (dI : Nat → Nat → Nat) (ad cd : Nat → Nat) (w wr fl : Nat → Int32) (pw sc : Int32) (lw rot vb : Nat → Int32) (rec tk : Int32) (live row : Nat → Int32) (cur ser dur wo : Int32) (bts : Nat → Int32) (us : Int32) (act : Nat → Int32) (rd rs : Int32) (plate tare product clock : Int32) (h1 : (nI 0 ≤ tare ∧ tare ≤ nI 216000)) (h2 : (nI 0 ≤ product ∧ product ≤ nI 39)) (h3 : (nI 0 ≤ clock ∧ clock ≤ nI 67108863)) : Met l y_R_close w_R_close ({ frames := 2, cells := 0, slots := 0, locals := 42 }) (xR (dC, dI) vwCl (xt cd) (xw ad cd w wr fl (nI 1) (-1) lw rot vb (nI 0) (nI 0) live row (-1) (nI 0) (nI 0) (nI 0) bts (nI 0) act (nI 0) (nI 0)) [.ref (ad 0), .int plate, .int tare, .int product, .int clock]) (vp_Si (fun r => r = nI 0)) 0 0 (fun _ => False) := by
  refine Met.ofW (cc := b_R_close) (maxL := 6) (ret := (some (.int))) (by decide) rfl ?_
  intro P e s m args below meth c0 s₁ B hml hv
  obtain ⟨rfl, hP, hK⟩ := hv
  have hx := B.exec
  have hb := B.bytes
  have hr := B.returns
  have hts := atoms_spec (ws := w_R_close) B.pre
  have hown : s.vm.findClass R_R = some m.cls := findClass_of_methodNamed B.named
  have hlocks := B.notSynchronized
  have hl := lv_entry ([.ref (ad 0), .int plate, .int tare, .int product, .int clock]) (n := 6) (Nat.le_of_ble_eq_true rfl)
  rw [lg_entry_eq]
  generalize (lg_sl ([.ref (ad 0), .int plate, .int tare, .int product, .int clock]) ++ List.replicate (6 - (lg_sl ([.ref (ad 0), .int plate, .int tare, .int product, .int clock])).length) Slot.unset).toArray = ls at hl ⊢
  have hl : lv_has ls 6 [(0, .ref (ad 0)), (1, .int plate), (2, .int tare), (3, .int product), (4, .int clock)] := hl
  refine lv_iload_n hx hb d_R_close_0 rfl (lv_at hl 2 rfl) ?_
  refine lv_iconst (v := nI 0) hx hb d_R_close_1 (by decide) ?_
  refine lv_ldc (v := nI 216000) hx hb hown (hts (.constant R_R 65 216000) (List.mem_cons_of_mem _ t_363)) d_R_close_2 ?_
  refine vp_callSi (va_runS (As := [.int tare, .int (nI 0), .int (nI 216000)]) (rest := []) ⟨hx, hb, hml, hown, hts⟩ (c_R_isWithin l dC dI tare (nI 0) (nI 216000) ) (cwS 3 hts (g_S t_271 t_207 t_1 t_208) rfl rfl rfl (by decide +kernel) ⟨by decide, by decide⟩) (xR_s (va_P.sub hP [] rfl) (hK.sub [] rfl)) rfl rfl hl.1 rfl (lv_room (Nat.le_of_ble_eq_true rfl)) d_R_close_4 ⟨Nat.le_refl _, Nat.le_refl _⟩).run (fun r4 q4 => ?_)
  obtain ⟨rfl, -⟩ := q4.resolve_right (fun z => z.2 (h1))
  refine va_csv (va_runS (As := [.int (nI 1)]) (rest := []) ⟨hx, hb, hml, hown, hts⟩ (c_R_requireArgument_1 l dC dI  ) (cwS 1 hts (g_S t_272 t_273 t_1 t_274) rfl rfl rfl (by decide +kernel) ⟨by decide, by decide⟩) (xR_s (va_P.sub hP [] rfl) (hK.sub [] rfl)) rfl rfl hl.1 rfl (lv_room (Nat.le_of_ble_eq_true rfl)) d_R_close_7 ⟨Nat.le_refl _, Nat.le_refl _⟩).run (fun q7 => ?_)
  refine lv_iload_n hx hb d_R_close_10 rfl (lv_at hl 3 rfl) ?_
  refine vp_callSi (va_runS (As := [.int product]) (rest := []) ⟨hx, hb, hml, hown, hts⟩ (c_R_isProduct l dC dI product ) (cwS 1 hts (g_S t_364 t_365 t_1 t_366) rfl rfl rfl (by decide +kernel) ⟨by decide, by decide⟩) (xR_s (va_P.sub hP [] rfl) (hK.sub [] rfl)) rfl rfl hl.1 rfl (lv_room (Nat.le_of_ble_eq_true rfl)) d_R_close_11 ⟨Nat.le_refl _, Nat.le_refl _⟩).run (fun r11 q11 => ?_)
  obtain ⟨rfl, -⟩ := q11.resolve_right (fun z => z.2 (h2))
  refine va_csv (va_runS (As := [.int (nI 1)]) (rest := []) ⟨hx, hb, hml, hown, hts⟩ (c_R_requireArgument_1 l dC dI  ) (cwS 1 hts (g_S t_272 t_273 t_1 t_274) rfl rfl rfl (by decide +kernel) ⟨by decide, by decide⟩) (xR_s (va_P.sub hP [] rfl) (hK.sub [] rfl)) rfl rfl hl.1 rfl (lv_room (Nat.le_of_ble_eq_true rfl)) d_R_close_14 ⟨Nat.le_refl _, Nat.le_refl _⟩).run (fun q14 => ?_)
  refine lv_iload hx hb d_R_close_17 (lv_at hl 4 rfl) ?_
  refine lv_iconst (v := nI 0) hx hb d_R_close_19 (by decide) ?_
  refine lv_ldc (v := nI 67108863) hx hb hown (hts (.constant R_R 70 67108863) (List.mem_cons_of_mem _ t_367)) d_R_close_20 ?_
  refine vp_callSi (va_runS (As := [.int clock, .int (nI 0), .int (nI 67108863)]) (rest := []) ⟨hx, hb, hml, hown, hts⟩ (c_R_isWithin l dC dI clock (nI 0) (nI 67108863) ) (cwS 3 hts (g_S t_271 t_207 t_1 t_208) rfl rfl rfl (by decide +kernel) ⟨by decide, by decide⟩) (xR_s (va_P.sub hP [] rfl) (hK.sub [] rfl)) rfl rfl hl.1 rfl (lv_room (Nat.le_of_ble_eq_true rfl)) d_R_close_22 ⟨Nat.le_refl _, Nat.le_refl _⟩).run (fun r22 q22 => ?_)
  obtain ⟨rfl, -⟩ := q22.resolve_right (fun z => z.2 (h3))
  refine va_csv (va_runS (As := [.int (nI 1)]) (rest := []) ⟨hx, hb, hml, hown, hts⟩ (c_R_requireArgument_1 l dC dI  ) (cwS 1 hts (g_S t_272 t_273 t_1 t_274) rfl rfl rfl (by decide +kernel) ⟨by decide, by decide⟩) (xR_s (va_P.sub hP [] rfl) (hK.sub [] rfl)) rfl rfl hl.1 rfl (lv_room (Nat.le_of_ble_eq_true rfl)) d_R_close_25 ⟨Nat.le_refl _, Nat.le_refl _⟩).run (fun q25 => ?_)
  refine lv_aload_n hx hb d_R_close_28 rfl (lv_at hl 0 rfl) ?_
  refine va_get (D := (dC, dI)) (ci := 4) (v := .ref (ad 2)) (C := R_R) (T := F_R) (N := 7) hx hb hts (fun w h => List.mem_cons_of_mem _ (in_R w h)) hown hK hP 0 rfl rfl 1 (by decide) (hts (.fieldLink R_R 20 R_R "chip" "LWeighRecorder$Chip;") (List.mem_cons_of_mem _ t_115)) (fun _ h9 => h9) rfl d_R_close_29 ?_
  refine vp_callSi (va_runV (C := R_C) (As := []) (rest := []) ⟨hx, hb, hml, hown, hts⟩ (c_C_isPowered l dC dI ad cd w wr fl (nI 1) (-1) lw rot vb (nI 0) (nI 0) live row (-1) (nI 0) (nI 0) (nI 0) bts (nI 0) act (nI 0) (nI 0)  (by first | omega | rfl | assumption | decide)) (cwV 0 hts (g_V t_225 t_226 t_227 t_3 t_228) rfl rfl rfl (by decide +kernel) ⟨by decide, by decide⟩) (xR_v hP hK 2 rfl rfl) rfl rfl hl.1 rfl (lv_room (Nat.le_of_ble_eq_true rfl)) d_R_close_32 ⟨Nat.le_refl _, Nat.le_refl _⟩).run (fun r32 q32 => ?_)
  subst q32
  refine va_csv (va_runS (As := [.int (nI 1)]) (rest := []) ⟨hx, hb, hml, hown, hts⟩ (c_R_requireState_1 l dC dI  ) (cwS 1 hts (g_S t_338 t_339 t_1 t_340) rfl rfl rfl (by decide +kernel) ⟨by decide, by decide⟩) (xR_s (va_P.sub hP [] rfl) (hK.sub [] rfl)) rfl rfl hl.1 rfl (lv_room (Nat.le_of_ble_eq_true rfl)) d_R_close_35 ⟨Nat.le_refl _, Nat.le_refl _⟩).run (fun q35 => ?_)
  refine lv_aload_n hx hb d_R_close_38 rfl (lv_at hl 0 rfl) ?_
  refine va_get (D := (dC, dI)) (ci := 4) (v := .int (nI 0)) (C := R_R) (T := F_R) (N := 7) hx hb hts (fun w h => List.mem_cons_of_mem _ (in_R w h)) hown hK hP 0 rfl rfl 5 (by decide) (hts (.fieldLink R_R 41 R_R "readings" "I") (List.mem_cons_of_mem _ t_119)) (fun _ h9 => h9) rfl d_R_close_39 ?_
  refine lv_if_eq (tgt := 75) hx hb d_R_close_42 (by decide) (fun c42 => ?_) (fun c42 => ?_)
  ·
    refine lv_iconst (v := nI 0) hx hb d_R_close_75 (by decide) ?_
    exact W.iret (v := nI 0) hx hb hr (fun t ht hW => ⟨nI 0, rfl, by first | rfl | trivial | omega, ht⟩) (fun q hq => by cases hq) d_R_close_76
  ·
    exact absurd c42 (by decide)
set_option maxHeartbeats 4000000 in
set_option maxRecDepth 100000 in
theorem c_R_annul_ok (l : Launch) (dC : Nat → ClassId) (dI : Nat → Nat → Nat) (ad cd : Nat → Nat) (w wr fl : Nat → Int32) (pw sc : Int32) (lw rot vb : Nat → Int32) (rec tk : Int32) (live row : Nat → Int32) (cur ser dur wo : Int32) (bts : Nat → Int32) (us : Int32) (act : Nat → Int32) (rd rs : Int32) (tno rea : Int32) (hok : (nI 0 ≤ rea ∧ rea ≤ nI 3)) : Met l y_R_annul w_R_annul ({ frames := 1, cells := 0, slots := 0, locals := 22 }) (xR (dC, dI) vwCl (xt cd) (xw ad cd w wr fl (nI 1) (-1) lw rot vb (nI 0) (nI 0) live row (-1) (nI 0) (nI 0) (nI 0) bts (nI 0) act (nI 0) (nI 0)) [.ref (ad 0), .int tno, .int rea]) (vp_Si (fun r => r = nI 0)) 0 0 (fun _ => False) := by
  refine Met.ofW (cc := b_R_annul) (maxL := 3) (ret := (some (.int))) (by decide) rfl ?_
  intro P e s m args below meth c0 s₁ B hml hv
  obtain ⟨rfl, hP, hK⟩ := hv
  have hx := B.exec
  have hb := B.bytes
  have hr := B.returns
  have hts := atoms_spec (ws := w_R_annul) B.pre
  have hown : s.vm.findClass R_R = some m.cls := findClass_of_methodNamed B.named
  have hlocks := B.notSynchronized
  have hl := lv_entry ([.ref (ad 0), .int tno, .int rea]) (n := 3) (Nat.le_of_ble_eq_true rfl)
  rw [lg_entry_eq]
  generalize (lg_sl ([.ref (ad 0), .int tno, .int rea]) ++ List.replicate (3 - (lg_sl ([.ref (ad 0), .int tno, .int rea])).length) Slot.unset).toArray = ls at hl ⊢
  have hl : lv_has ls 3 [(0, .ref (ad 0)), (1, .int tno), (2, .int rea)] := hl
  refine lv_iload_n hx hb d_R_annul_0 rfl (lv_at hl 2 rfl) ?_
  refine lv_iconst (v := nI 0) hx hb d_R_annul_1 (by decide) ?_
  refine lv_iconst (v := nI 3) hx hb d_R_annul_2 (by decide) ?_
  refine vp_callSi (va_runS (As := [.int rea, .int (nI 0), .int (nI 3)]) (rest := []) ⟨hx, hb, hml, hown, hts⟩ (c_R_isWithin l dC dI rea (nI 0) (nI 3) ) (cwS 3 hts (g_S t_271 t_207 t_1 t_208) rfl rfl rfl (by decide +kernel) ⟨by decide, by decide⟩) (xR_s (va_P.sub hP [] rfl) (hK.sub [] rfl)) rfl rfl hl.1 rfl (lv_room (Nat.le_of_ble_eq_true rfl)) d_R_annul_3 ⟨Nat.le_refl _, Nat.le_refl _⟩).run (fun r3 q3 => ?_)
  obtain ⟨rfl, -⟩ := q3.resolve_right (fun z => z.2 (hok))
  refine va_csv (va_runS (As := [.int (nI 1)]) (rest := []) ⟨hx, hb, hml, hown, hts⟩ (c_R_requireArgument_1 l dC dI  ) (cwS 1 hts (g_S t_272 t_273 t_1 t_274) rfl rfl rfl (by decide +kernel) ⟨by decide, by decide⟩) (xR_s (va_P.sub hP [] rfl) (hK.sub [] rfl)) rfl rfl hl.1 rfl (lv_room (Nat.le_of_ble_eq_true rfl)) d_R_annul_6 ⟨Nat.le_refl _, Nat.le_refl _⟩).run (fun q6 => ?_)
  refine lv_aload_n hx hb d_R_annul_9 rfl (lv_at hl 0 rfl) ?_
  refine va_get (D := (dC, dI)) (ci := 4) (v := .ref (ad 2)) (C := R_R) (T := F_R) (N := 7) hx hb hts (fun w h => List.mem_cons_of_mem _ (in_R w h)) hown hK hP 0 rfl rfl 1 (by decide) (hts (.fieldLink R_R 20 R_R "chip" "LWeighRecorder$Chip;") (List.mem_cons_of_mem _ t_115)) (fun _ h9 => h9) rfl d_R_annul_10 ?_
  refine vp_callSi (va_runV (C := R_C) (As := []) (rest := []) ⟨hx, hb, hml, hown, hts⟩ (c_C_isPowered l dC dI ad cd w wr fl (nI 1) (-1) lw rot vb (nI 0) (nI 0) live row (-1) (nI 0) (nI 0) (nI 0) bts (nI 0) act (nI 0) (nI 0)  (by first | omega | rfl | assumption | decide)) (cwV 0 hts (g_V t_225 t_226 t_227 t_3 t_228) rfl rfl rfl (by decide +kernel) ⟨by decide, by decide⟩) (xR_v hP hK 2 rfl rfl) rfl rfl hl.1 rfl (lv_room (Nat.le_of_ble_eq_true rfl)) d_R_annul_13 ⟨Nat.le_refl _, Nat.le_refl _⟩).run (fun r13 q13 => ?_)
  subst q13
  refine va_csv (va_runS (As := [.int (nI 1)]) (rest := []) ⟨hx, hb, hml, hown, hts⟩ (c_R_requireState_1 l dC dI  ) (cwS 1 hts (g_S t_338 t_339 t_1 t_340) rfl rfl rfl (by decide +kernel) ⟨by decide, by decide⟩) (xR_s (va_P.sub hP [] rfl) (hK.sub [] rfl)) rfl rfl hl.1 rfl (lv_room (Nat.le_of_ble_eq_true rfl)) d_R_annul_16 ⟨Nat.le_refl _, Nat.le_refl _⟩).run (fun q16 => ?_)
  refine lv_aload_n hx hb d_R_annul_19 rfl (lv_at hl 0 rfl) ?_
  refine va_get (D := (dC, dI)) (ci := 4) (v := .ref (ad 3)) (C := R_R) (T := F_R) (N := 7) hx hb hts (fun w h => List.mem_cons_of_mem _ (in_R w h)) hown hK hP 0 rfl rfl 2 (by decide) (hts (.fieldLink R_R 26 R_R "log" "LWeighRecorder$Log;") (List.mem_cons_of_mem _ t_116)) (fun _ h9 => h9) rfl d_R_annul_20 ?_
  refine lv_iload_n hx hb d_R_annul_23 rfl (lv_at hl 1 rfl) ?_
  refine vp_callSi (va_runV (C := R_G) (As := [.int tno]) (rest := []) ⟨hx, hb, hml, hown, hts⟩ (c_G_hasTicket l dC dI ad cd w wr fl (nI 1) (-1) lw rot vb (nI 0) (nI 0) live row (-1) (nI 0) (nI 0) (nI 0) bts (nI 0) act (nI 0) (nI 0) tno ) (cwV 1 hts (g_V t_473 t_199 t_200 t_4 t_201) rfl rfl rfl (by decide +kernel) ⟨by decide, by decide⟩) (xR_v hP hK 3 rfl rfl) rfl rfl hl.1 rfl (lv_room (Nat.le_of_ble_eq_true rfl)) d_R_annul_24 ⟨Nat.le_refl _, Nat.le_refl _⟩).run (fun r24 q24 => ?_)
  obtain ⟨rfl, -⟩ := q24.resolve_left (fun z => (fun z => not_tk z) z.2)
  refine lv_if_eq (tgt := 51) hx hb d_R_annul_27 (by decide) (fun c27 => ?_) (fun c27 => ?_)
  ·
    refine lv_iconst (v := nI 0) hx hb d_R_annul_51 (by decide) ?_
    exact W.iret (v := nI 0) hx hb hr (fun t ht hW => ⟨nI 0, rfl, by first | rfl | trivial | omega, ht⟩) (fun q hq => by cases hq) d_R_annul_52
  ·
    exact absurd c27 (by decide)
set_option maxHeartbeats 4000000 in
set_option maxRecDepth 100000 in
theorem c_R_sync_f (l : Launch) (dC : Nat → ClassId) (dI : Nat → Nat → Nat) (ad cd : Nat → Nat) (w wr fl : Nat → Int32) (pw sc : Int32) (lw rot vb : Nat → Int32) (rec tk : Int32) (live row : Nat → Int32) (cur ser dur wo : Int32) (bts : Nat → Int32) (us : Int32) (act : Nat → Int32) (rd rs : Int32)  : Met l y_R_sync w_R_sync ({ frames := 1, cells := 0, slots := 0, locals := 20 }) (xR (dC, dI) vwCl (xt cd) (xw ad cd w wr fl (nI 1) (-1) lw rot vb (nI 0) (nI 0) live row (-1) (nI 0) (nI 0) (nI 0) bts (nI 0) act (nI 0) (nI 0)) [.ref (ad 0)]) (vp_Si (fun r => r = nI 1)) 0 0 (fun _ => False) := by
  refine Met.ofW (cc := b_R_sync) (maxL := 2) (ret := (some (.int))) (by decide) rfl ?_
  intro P e s m args below meth c0 s₁ B hml hv
  obtain ⟨rfl, hP, hK⟩ := hv
  have hx := B.exec
  have hb := B.bytes
  have hr := B.returns
  have hts := atoms_spec (ws := w_R_sync) B.pre
  have hown : s.vm.findClass R_R = some m.cls := findClass_of_methodNamed B.named
  have hlocks := B.notSynchronized
  have hl := lv_entry ([.ref (ad 0)]) (n := 2) (Nat.le_of_ble_eq_true rfl)
  rw [lg_entry_eq]
  generalize (lg_sl ([.ref (ad 0)]) ++ List.replicate (2 - (lg_sl ([.ref (ad 0)])).length) Slot.unset).toArray = ls at hl ⊢
  have hl : lv_has ls 2 [(0, .ref (ad 0))] := hl
  refine lv_aload_n hx hb d_R_sync_0 rfl (lv_at hl 0 rfl) ?_
  refine va_get (D := (dC, dI)) (ci := 4) (v := .ref (ad 2)) (C := R_R) (T := F_R) (N := 7) hx hb hts (fun w h => List.mem_cons_of_mem _ (in_R w h)) hown hK hP 0 rfl rfl 1 (by decide) (hts (.fieldLink R_R 20 R_R "chip" "LWeighRecorder$Chip;") (List.mem_cons_of_mem _ t_115)) (fun _ h9 => h9) rfl d_R_sync_1 ?_
  refine vp_callSi (va_runV (C := R_C) (As := []) (rest := []) ⟨hx, hb, hml, hown, hts⟩ (c_C_isPowered l dC dI ad cd w wr fl (nI 1) (-1) lw rot vb (nI 0) (nI 0) live row (-1) (nI 0) (nI 0) (nI 0) bts (nI 0) act (nI 0) (nI 0)  (by first | omega | rfl | assumption | decide)) (cwV 0 hts (g_V t_225 t_226 t_227 t_3 t_228) rfl rfl rfl (by decide +kernel) ⟨by decide, by decide⟩) (xR_v hP hK 2 rfl rfl) rfl rfl hl.1 rfl (lv_room (Nat.le_of_ble_eq_true rfl)) d_R_sync_4 ⟨Nat.le_refl _, Nat.le_refl _⟩).run (fun r4 q4 => ?_)
  subst q4
  refine va_csv (va_runS (As := [.int (nI 1)]) (rest := []) ⟨hx, hb, hml, hown, hts⟩ (c_R_requireState_1 l dC dI  ) (cwS 1 hts (g_S t_338 t_339 t_1 t_340) rfl rfl rfl (by decide +kernel) ⟨by decide, by decide⟩) (xR_s (va_P.sub hP [] rfl) (hK.sub [] rfl)) rfl rfl hl.1 rfl (lv_room (Nat.le_of_ble_eq_true rfl)) d_R_sync_7 ⟨Nat.le_refl _, Nat.le_refl _⟩).run (fun q7 => ?_)
  refine lv_aload_n hx hb d_R_sync_10 rfl (lv_at hl 0 rfl) ?_
  refine va_get (D := (dC, dI)) (ci := 4) (v := .ref (ad 1)) (C := R_R) (T := F_R) (N := 7) hx hb hts (fun w h => List.mem_cons_of_mem _ (in_R w h)) hown hK hP 0 rfl rfl 0 (by decide) (hts (.fieldLink R_R 12 R_R "store" "LWeighRecorder$Store;") (List.mem_cons_of_mem _ t_114)) (fun _ h9 => h9) rfl d_R_sync_11 ?_
  refine vp_callSi (va_runV (C := R_S) (As := []) (rest := []) ⟨hx, hb, hml, hown, hts⟩ (c_S_durableCount l dC dI ad cd w wr fl (nI 1) (-1) lw rot vb (nI 0) (nI 0) live row (-1) (nI 0) (nI 0) (nI 0) bts (nI 0) act (nI 0) (nI 0)  ) (cwV 0 hts (g_V t_230 t_231 t_232 t_2 t_233) rfl rfl rfl (by decide +kernel) ⟨by decide, by decide⟩) (xR_v hP hK 1 rfl rfl) rfl rfl hl.1 rfl (lv_room (Nat.le_of_ble_eq_true rfl)) d_R_sync_14 ⟨Nat.le_refl _, Nat.le_refl _⟩).run (fun r14 q14 => ?_)
  subst q14
  refine lv_aload_n hx hb d_R_sync_17 rfl (lv_at hl 0 rfl) ?_
  refine va_get (D := (dC, dI)) (ci := 4) (v := .ref (ad 3)) (C := R_R) (T := F_R) (N := 7) hx hb hts (fun w h => List.mem_cons_of_mem _ (in_R w h)) hown hK hP 0 rfl rfl 2 (by decide) (hts (.fieldLink R_R 26 R_R "log" "LWeighRecorder$Log;") (List.mem_cons_of_mem _ t_116)) (fun _ h9 => h9) rfl d_R_sync_18 ?_
  refine vp_callSi (va_runV (C := R_G) (As := []) (rest := [.int (nI 0)]) ⟨hx, hb, hml, hown, hts⟩ (c_G_recordCount l dC dI ad cd w wr fl (nI 1) (-1) lw rot vb (nI 0) (nI 0) live row (-1) (nI 0) (nI 0) (nI 0) bts (nI 0) act (nI 0) (nI 0)  ) (cwV 0 hts (g_V t_229 t_210 t_211 t_4 t_212) rfl rfl rfl (by decide +kernel) ⟨by decide, by decide⟩) (xR_v hP hK 3 rfl rfl) rfl rfl hl.1 rfl (lv_room (Nat.le_of_ble_eq_true rfl)) d_R_sync_21 ⟨Nat.le_refl _, Nat.le_refl _⟩).run (fun r21 q21 => ?_)
  subst q21
  refine lv_icmp_ne (tgt := 29) hx hb d_R_sync_24 (by decide) (fun c24 => ?_) (fun c24 => ?_)
  ·
    exact absurd c24 (by decide)
  ·
    refine lv_iconst (v := nI 1) hx hb d_R_sync_27 (by decide) ?_
    exact W.iret (v := nI 1) hx hb hr (fun t ht hW => ⟨nI 1, rfl, by first | rfl | trivial | omega, ht⟩) (fun q hq => by cases hq) d_R_sync_28
set_option maxHeartbeats 4000000 in
set_option maxRecDepth 100000 in
theorem c_R_dayTotal_f (l : Launch) (dC : Nat → ClassId) (dI : Nat → Nat → Nat) (ad cd : Nat → Nat) (w wr fl : Nat → Int32) (pw sc : Int32) (lw rot vb : Nat → Int32) (rec tk : Int32) (live row : Nat → Int32) (cur ser dur wo : Int32) (bts : Nat → Int32) (us : Int32) (act : Nat → Int32) (rd rs : Int32) (da pr : Int32) : Met l y_R_dayTotal w_R_dayTotal ({ frames := 1, cells := 0, slots := 0, locals := 20 }) (xR (dC, dI) vwCl (xt cd) (xw ad cd w wr fl (nI 1) (-1) lw rot vb (nI 0) (nI 0) live row (-1) (nI 0) (nI 0) (nI 0) bts (nI 0) act (nI 0) (nI 0)) [.ref (ad 0), .int da, .int pr]) (vp_Sl (fun r => r = 0)) 0 0 (fun _ => False) := by
  refine Met.ofW (cc := b_R_dayTotal) (maxL := 7) (ret := (some (.long))) (by decide) rfl ?_
  intro P e s m args below meth c0 s₁ B hml hv
  obtain ⟨rfl, hP, hK⟩ := hv
  have hx := B.exec
  have hb := B.bytes
  have hr := B.returns
  have hts := atoms_spec (ws := w_R_dayTotal) B.pre
  have hown : s.vm.findClass R_R = some m.cls := findClass_of_methodNamed B.named
  have hlocks := B.notSynchronized
  have hl := lv_entry ([.ref (ad 0), .int da, .int pr]) (n := 7) (Nat.le_of_ble_eq_true rfl)
  rw [lg_entry_eq]
  generalize (lg_sl ([.ref (ad 0), .int da, .int pr]) ++ List.replicate (7 - (lg_sl ([.ref (ad 0), .int da, .int pr])).length) Slot.unset).toArray = ls at hl ⊢
  have hl : lv_has ls 7 [(0, .ref (ad 0)), (1, .int da), (2, .int pr)] := hl
  refine lv_aload_n hx hb d_R_dayTotal_0 rfl (lv_at hl 0 rfl) ?_
  refine va_get (D := (dC, dI)) (ci := 4) (v := .ref (ad 2)) (C := R_R) (T := F_R) (N := 7) hx hb hts (fun w h => List.mem_cons_of_mem _ (in_R w h)) hown hK hP 0 rfl rfl 1 (by decide) (hts (.fieldLink R_R 20 R_R "chip" "LWeighRecorder$Chip;") (List.mem_cons_of_mem _ t_115)) (fun _ h9 => h9) rfl d_R_dayTotal_1 ?_
  refine vp_callSi (va_runV (C := R_C) (As := []) (rest := []) ⟨hx, hb, hml, hown, hts⟩ (c_C_isPowered l dC dI ad cd w wr fl (nI 1) (-1) lw rot vb (nI 0) (nI 0) live row (-1) (nI 0) (nI 0) (nI 0) bts (nI 0) act (nI 0) (nI 0)  (by first | omega | rfl | assumption | decide)) (cwV 0 hts (g_V t_225 t_226 t_227 t_3 t_228) rfl rfl rfl (by decide +kernel) ⟨by decide, by decide⟩) (xR_v hP hK 2 rfl rfl) rfl rfl hl.1 rfl (lv_room (Nat.le_of_ble_eq_true rfl)) d_R_dayTotal_4 ⟨Nat.le_refl _, Nat.le_refl _⟩).run (fun r4 q4 => ?_)
  subst q4
  refine va_csv (va_runS (As := [.int (nI 1)]) (rest := []) ⟨hx, hb, hml, hown, hts⟩ (c_R_requireState_1 l dC dI  ) (cwS 1 hts (g_S t_338 t_339 t_1 t_340) rfl rfl rfl (by decide +kernel) ⟨by decide, by decide⟩) (xR_s (va_P.sub hP [] rfl) (hK.sub [] rfl)) rfl rfl hl.1 rfl (lv_room (Nat.le_of_ble_eq_true rfl)) d_R_dayTotal_7 ⟨Nat.le_refl _, Nat.le_refl _⟩).run (fun q7 => ?_)
  refine lv_lconst (v := 0) hx hb d_R_dayTotal_10 (by decide) ?_
  refine lv_lstore_n hx hb d_R_dayTotal_11 rfl hl (by decide) rfl (fun ls hl => ?_)
  have hl : lv_has ls 7 [(3, .long 0), (0, .ref (ad 0)), (1, .int da), (2, .int pr)] := hl
  refine lv_iconst (v := nI 1) hx hb d_R_dayTotal_12 (by decide) ?_
  refine lv_istore hx hb d_R_dayTotal_13 hl (by decide) rfl (fun ls hl => ?_)
  have hl : lv_has ls 7 [(5, .int (nI 1)), (3, .long 0), (0, .ref (ad 0)), (1, .int da), (2, .int pr)] := hl
  refine lv_iload hx hb d_R_dayTotal_15 (lv_at hl 0 rfl) ?_
  refine lv_aload_n hx hb d_R_dayTotal_17 rfl (lv_at hl 2 rfl) ?_
  refine va_get (D := (dC, dI)) (ci := 4) (v := .ref (ad 3)) (C := R_R) (T := F_R) (N := 7) hx hb hts (fun w h => List.mem_cons_of_mem _ (in_R w h)) hown hK hP 0 rfl rfl 2 (by decide) (hts (.fieldLink R_R 26 R_R "log" "LWeighRecorder$Log;") (List.mem_cons_of_mem _ t_116)) (fun _ h9 => h9) rfl d_R_dayTotal_18 ?_
  refine vp_callSi (va_runV (C := R_G) (As := []) (rest := [.int (nI 1)]) ⟨hx, hb, hml, hown, hts⟩ (c_G_ticketCount l dC dI ad cd w wr fl (nI 1) (-1) lw rot vb (nI 0) (nI 0) live row (-1) (nI 0) (nI 0) (nI 0) bts (nI 0) act (nI 0) (nI 0)  ) (cwV 0 hts (g_V t_217 t_218 t_219 t_4 t_220) rfl rfl rfl (by decide +kernel) ⟨by decide, by decide⟩) (xR_v hP hK 3 rfl rfl) rfl rfl hl.1 rfl (lv_room (Nat.le_of_ble_eq_true rfl)) d_R_dayTotal_21 ⟨Nat.le_refl _, Nat.le_refl _⟩).run (fun r21 q21 => ?_)
  subst q21
  refine lv_icmp_gt (tgt := 100) hx hb d_R_dayTotal_24 (by decide) (fun c24 => ?_) (fun c24 => ?_)
  ·
    refine lv_lload_n hx hb d_R_dayTotal_100 rfl (lv_at hl 1 rfl) ?_
    exact W.lret (v := 0) hx hb hr (fun t ht hW => ⟨0, rfl, by first | rfl | trivial | omega, ht⟩) (fun q hq => by cases hq) d_R_dayTotal_101
  ·
    exact absurd c24 (by decide)
set_option maxHeartbeats 4000000 in
set_option maxRecDepth 100000 in
theorem c_R_rangeTotal_f (l : Launch) (dC : Nat → ClassId) (dI : Nat → Nat → Nat) (ad cd : Nat → Nat) (w wr fl : Nat → Int32) (pw sc : Int32) (lw rot vb : Nat → Int32) (rec tk : Int32) (live row : Nat → Int32) (cur ser dur wo : Int32) (bts : Nat → Int32) (us : Int32) (act : Nat → Int32) (rd rs : Int32) (fr to : Int32) : Met l y_R_rangeTotal w_R_rangeTotal ({ frames := 1, cells := 0, slots := 0, locals := 20 }) (xR (dC, dI) vwCl (xt cd) (xw ad cd w wr fl (nI 1) (-1) lw rot vb (nI 0) (nI 0) live row (-1) (nI 0) (nI 0) (nI 0) bts (nI 0) act (nI 0) (nI 0)) [.ref (ad 0), .int fr, .int to]) (vp_Sl (fun r => r = 0)) 0 0 (fun _ => False) := by
  refine Met.ofW (cc := b_R_rangeTotal) (maxL := 7) (ret := (some (.long))) (by decide) rfl ?_
  intro P e s m args below meth c0 s₁ B hml hv
  obtain ⟨rfl, hP, hK⟩ := hv
  have hx := B.exec
  have hb := B.bytes
  have hr := B.returns
  have hts := atoms_spec (ws := w_R_rangeTotal) B.pre
  have hown : s.vm.findClass R_R = some m.cls := findClass_of_methodNamed B.named
  have hlocks := B.notSynchronized
  have hl := lv_entry ([.ref (ad 0), .int fr, .int to]) (n := 7) (Nat.le_of_ble_eq_true rfl)
  rw [lg_entry_eq]
  generalize (lg_sl ([.ref (ad 0), .int fr, .int to]) ++ List.replicate (7 - (lg_sl ([.ref (ad 0), .int fr, .int to])).length) Slot.unset).toArray = ls at hl ⊢
  have hl : lv_has ls 7 [(0, .ref (ad 0)), (1, .int fr), (2, .int to)] := hl
  refine lv_aload_n hx hb d_R_rangeTotal_0 rfl (lv_at hl 0 rfl) ?_
  refine va_get (D := (dC, dI)) (ci := 4) (v := .ref (ad 2)) (C := R_R) (T := F_R) (N := 7) hx hb hts (fun w h => List.mem_cons_of_mem _ (in_R w h)) hown hK hP 0 rfl rfl 1 (by decide) (hts (.fieldLink R_R 20 R_R "chip" "LWeighRecorder$Chip;") (List.mem_cons_of_mem _ t_115)) (fun _ h9 => h9) rfl d_R_rangeTotal_1 ?_
  refine vp_callSi (va_runV (C := R_C) (As := []) (rest := []) ⟨hx, hb, hml, hown, hts⟩ (c_C_isPowered l dC dI ad cd w wr fl (nI 1) (-1) lw rot vb (nI 0) (nI 0) live row (-1) (nI 0) (nI 0) (nI 0) bts (nI 0) act (nI 0) (nI 0)  (by first | omega | rfl | assumption | decide)) (cwV 0 hts (g_V t_225 t_226 t_227 t_3 t_228) rfl rfl rfl (by decide +kernel) ⟨by decide, by decide⟩) (xR_v hP hK 2 rfl rfl) rfl rfl hl.1 rfl (lv_room (Nat.le_of_ble_eq_true rfl)) d_R_rangeTotal_4 ⟨Nat.le_refl _, Nat.le_refl _⟩).run (fun r4 q4 => ?_)
  subst q4
  refine va_csv (va_runS (As := [.int (nI 1)]) (rest := []) ⟨hx, hb, hml, hown, hts⟩ (c_R_requireState_1 l dC dI  ) (cwS 1 hts (g_S t_338 t_339 t_1 t_340) rfl rfl rfl (by decide +kernel) ⟨by decide, by decide⟩) (xR_s (va_P.sub hP [] rfl) (hK.sub [] rfl)) rfl rfl hl.1 rfl (lv_room (Nat.le_of_ble_eq_true rfl)) d_R_rangeTotal_7 ⟨Nat.le_refl _, Nat.le_refl _⟩).run (fun q7 => ?_)
  refine lv_iload_n hx hb d_R_rangeTotal_10 rfl (lv_at hl 2 rfl) ?_
  refine lv_aload_n hx hb d_R_rangeTotal_11 rfl (lv_at hl 0 rfl) ?_
  refine va_get (D := (dC, dI)) (ci := 4) (v := .ref (ad 3)) (C := R_R) (T := F_R) (N := 7) hx hb hts (fun w h => List.mem_cons_of_mem _ (in_R w h)) hown hK hP 0 rfl rfl 2 (by decide) (hts (.fieldLink R_R 26 R_R "log" "LWeighRecorder$Log;") (List.mem_cons_of_mem _ t_116)) (fun _ h9 => h9) rfl d_R_rangeTotal_12 ?_
  refine vp_callSi (va_runV (C := R_G) (As := []) (rest := [.int to]) ⟨hx, hb, hml, hown, hts⟩ (c_G_ticketCount l dC dI ad cd w wr fl (nI 1) (-1) lw rot vb (nI 0) (nI 0) live row (-1) (nI 0) (nI 0) (nI 0) bts (nI 0) act (nI 0) (nI 0)  ) (cwV 0 hts (g_V t_217 t_218 t_219 t_4 t_220) rfl rfl rfl (by decide +kernel) ⟨by decide, by decide⟩) (xR_v hP hK 3 rfl rfl) rfl rfl hl.1 rfl (lv_room (Nat.le_of_ble_eq_true rfl)) d_R_rangeTotal_15 ⟨Nat.le_refl _, Nat.le_refl _⟩).run (fun r15 q15 => ?_)
  subst q15
  refine va_mmin hx hb (hml.trans hl.1.symm) hown (hts (.methodLink R_R 133 Lib.Math.min.name) (List.mem_cons_of_mem _ t_567)) (hts (.static Lib.Math.min.name) (List.mem_cons_of_mem _ t_568)) (hts (.initialized "java/lang/Math") (List.mem_cons_of_mem _ t_13)) (hts (.code Lib.Math.min.name Lib.Math.min.code 2 (some .int)) (List.mem_cons_of_mem _ t_569)) (by decide) (by decide) (Nat.zero_le _) (Nat.zero_le _) d_R_rangeTotal_18 ?_
  refine lv_istore_n hx hb d_R_rangeTotal_21 rfl hl (by decide) rfl (fun ls hl => ?_)
  have hl : lv_has ls 7 [(3, .int (if (nI 0) < to then (nI 0) else to)), (0, .ref (ad 0)), (1, .int fr), (2, .int to)] := hl
  refine lv_lconst (v := 0) hx hb d_R_rangeTotal_22 (by decide) ?_
  refine lv_lstore hx hb d_R_rangeTotal_23 hl (by decide) rfl (fun ls hl => ?_)
  have hl : lv_has ls 7 [(4, .long 0), (3, .int (if (nI 0) < to then (nI 0) else to)), (0, .ref (ad 0)), (1, .int fr), (2, .int to)] := hl
  refine lv_iload_n hx hb d_R_rangeTotal_25 rfl (lv_at hl 3 rfl) ?_
  refine lv_iconst (v := nI 1) hx hb d_R_rangeTotal_26 (by decide) ?_
  refine va_mmax hx hb (hml.trans hl.1.symm) hown (hts (.methodLink R_R 139 Lib.Math.max.name) (List.mem_cons_of_mem _ t_570)) (hts (.static Lib.Math.max.name) (List.mem_cons_of_mem _ t_571)) (hts (.initialized "java/lang/Math") (List.mem_cons_of_mem _ t_13)) (hts (.code Lib.Math.max.name Lib.Math.max.code 2 (some .int)) (List.mem_cons_of_mem _ t_572)) (by decide) (by decide) (Nat.zero_le _) (Nat.zero_le _) d_R_rangeTotal_27 ?_
  refine lv_istore hx hb d_R_rangeTotal_30 hl (by decide) rfl (fun ls hl => ?_)
  have hl : lv_has ls 7 [(6, .int (if fr < (nI 1) then (nI 1) else fr)), (4, .long 0), (3, .int (if (nI 0) < to then (nI 0) else to)), (0, .ref (ad 0)), (1, .int fr), (2, .int to)] := hl
  refine lv_iload hx hb d_R_rangeTotal_32 (lv_at hl 0 rfl) ?_
  refine lv_iload_n hx hb d_R_rangeTotal_34 rfl (lv_at hl 2 rfl) ?_
  refine lv_icmp_gt (tgt := 71) hx hb d_R_rangeTotal_35 (by decide) (fun c35 => ?_) (fun c35 => ?_)
  ·
    refine lv_lload hx hb d_R_rangeTotal_71 (lv_at hl 1 rfl) ?_
    exact W.lret (v := 0) hx hb hr (fun t ht hW => ⟨0, rfl, by first | rfl | trivial | omega, ht⟩) (fun q hq => by cases hq) d_R_rangeTotal_73
  ·
    exact absurd (mn_mx to fr) c35
set_option maxHeartbeats 4000000 in
set_option maxRecDepth 100000 in
theorem c_R_find_f (l : Launch) (dC : Nat → ClassId) (dI : Nat → Nat → Nat) (ad cd : Nat → Nat) (w wr fl : Nat → Int32) (pw sc : Int32) (lw rot vb : Nat → Int32) (rec tk : Int32) (live row : Nat → Int32) (cur ser dur wo : Int32) (bts : Nat → Int32) (us : Int32) (act : Nat → Int32) (rd rs : Int32) (pl fr : Int32) : Met l y_R_find w_R_find ({ frames := 1, cells := 0, slots := 0, locals := 20 }) (xR (dC, dI) vwCl (xt cd) (xw ad cd w wr fl (nI 1) (-1) lw rot vb (nI 0) (nI 0) live row (-1) (nI 0) (nI 0) (nI 0) bts (nI 0) act (nI 0) (nI 0)) [.ref (ad 0), .int pl, .int fr]) (vp_Si (fun r => r = nI 0)) 0 0 (fun _ => False) := by
  refine Met.ofW (cc := b_R_find) (maxL := 4) (ret := (some (.int))) (by decide) rfl ?_
  intro P e s m args below meth c0 s₁ B hml hv
  obtain ⟨rfl, hP, hK⟩ := hv
  have hx := B.exec
  have hb := B.bytes
  have hr := B.returns
  have hts := atoms_spec (ws := w_R_find) B.pre
  have hown : s.vm.findClass R_R = some m.cls := findClass_of_methodNamed B.named
  have hlocks := B.notSynchronized
  have hl := lv_entry ([.ref (ad 0), .int pl, .int fr]) (n := 4) (Nat.le_of_ble_eq_true rfl)
  rw [lg_entry_eq]
  generalize (lg_sl ([.ref (ad 0), .int pl, .int fr]) ++ List.replicate (4 - (lg_sl ([.ref (ad 0), .int pl, .int fr])).length) Slot.unset).toArray = ls at hl ⊢
  have hl : lv_has ls 4 [(0, .ref (ad 0)), (1, .int pl), (2, .int fr)] := hl
  refine lv_aload_n hx hb d_R_find_0 rfl (lv_at hl 0 rfl) ?_
  refine va_get (D := (dC, dI)) (ci := 4) (v := .ref (ad 2)) (C := R_R) (T := F_R) (N := 7) hx hb hts (fun w h => List.mem_cons_of_mem _ (in_R w h)) hown hK hP 0 rfl rfl 1 (by decide) (hts (.fieldLink R_R 20 R_R "chip" "LWeighRecorder$Chip;") (List.mem_cons_of_mem _ t_115)) (fun _ h9 => h9) rfl d_R_find_1 ?_
  refine vp_callSi (va_runV (C := R_C) (As := []) (rest := []) ⟨hx, hb, hml, hown, hts⟩ (c_C_isPowered l dC dI ad cd w wr fl (nI 1) (-1) lw rot vb (nI 0) (nI 0) live row (-1) (nI 0) (nI 0) (nI 0) bts (nI 0) act (nI 0) (nI 0)  (by first | omega | rfl | assumption | decide)) (cwV 0 hts (g_V t_225 t_226 t_227 t_3 t_228) rfl rfl rfl (by decide +kernel) ⟨by decide, by decide⟩) (xR_v hP hK 2 rfl rfl) rfl rfl hl.1 rfl (lv_room (Nat.le_of_ble_eq_true rfl)) d_R_find_4 ⟨Nat.le_refl _, Nat.le_refl _⟩).run (fun r4 q4 => ?_)
  subst q4
  refine va_csv (va_runS (As := [.int (nI 1)]) (rest := []) ⟨hx, hb, hml, hown, hts⟩ (c_R_requireState_1 l dC dI  ) (cwS 1 hts (g_S t_338 t_339 t_1 t_340) rfl rfl rfl (by decide +kernel) ⟨by decide, by decide⟩) (xR_s (va_P.sub hP [] rfl) (hK.sub [] rfl)) rfl rfl hl.1 rfl (lv_room (Nat.le_of_ble_eq_true rfl)) d_R_find_7 ⟨Nat.le_refl _, Nat.le_refl _⟩).run (fun q7 => ?_)
  refine lv_iload_n hx hb d_R_find_10 rfl (lv_at hl 2 rfl) ?_
  refine lv_iconst (v := nI 1) hx hb d_R_find_11 (by decide) ?_
  refine va_mmax hx hb (hml.trans hl.1.symm) hown (hts (.methodLink R_R 139 Lib.Math.max.name) (List.mem_cons_of_mem _ t_570)) (hts (.static Lib.Math.max.name) (List.mem_cons_of_mem _ t_571)) (hts (.initialized "java/lang/Math") (List.mem_cons_of_mem _ t_13)) (hts (.code Lib.Math.max.name Lib.Math.max.code 2 (some .int)) (List.mem_cons_of_mem _ t_572)) (by decide) (by decide) (Nat.zero_le _) (Nat.zero_le _) d_R_find_12 ?_
  refine lv_istore_n hx hb d_R_find_15 rfl hl (by decide) rfl (fun ls hl => ?_)
  have hl : lv_has ls 4 [(3, .int (if fr < (nI 1) then (nI 1) else fr)), (0, .ref (ad 0)), (1, .int pl), (2, .int fr)] := hl
  refine lv_iload_n hx hb d_R_find_16 rfl (lv_at hl 0 rfl) ?_
  refine lv_aload_n hx hb d_R_find_17 rfl (lv_at hl 1 rfl) ?_
  refine va_get (D := (dC, dI)) (ci := 4) (v := .ref (ad 3)) (C := R_R) (T := F_R) (N := 7) hx hb hts (fun w h => List.mem_cons_of_mem _ (in_R w h)) hown hK hP 0 rfl rfl 2 (by decide) (hts (.fieldLink R_R 26 R_R "log" "LWeighRecorder$Log;") (List.mem_cons_of_mem _ t_116)) (fun _ h9 => h9) rfl d_R_find_18 ?_
  refine vp_callSi (va_runV (C := R_G) (As := []) (rest := [.int (if fr < (nI 1) then (nI 1) else fr)]) ⟨hx, hb, hml, hown, hts⟩ (c_G_ticketCount l dC dI ad cd w wr fl (nI 1) (-1) lw rot vb (nI 0) (nI 0) live row (-1) (nI 0) (nI 0) (nI 0) bts (nI 0) act (nI 0) (nI 0)  ) (cwV 0 hts (g_V t_217 t_218 t_219 t_4 t_220) rfl rfl rfl (by decide +kernel) ⟨by decide, by decide⟩) (xR_v hP hK 3 rfl rfl) rfl rfl hl.1 rfl (lv_room (Nat.le_of_ble_eq_true rfl)) d_R_find_21 ⟨Nat.le_refl _, Nat.le_refl _⟩).run (fun r21 q21 => ?_)
  subst q21
  refine lv_icmp_gt (tgt := 47) hx hb d_R_find_24 (by decide) (fun c24 => ?_) (fun c24 => ?_)
  ·
    refine lv_iconst (v := nI 0) hx hb d_R_find_47 (by decide) ?_
    exact W.iret (v := nI 0) hx hb hr (fun t ht hW => ⟨nI 0, rfl, by first | rfl | trivial | omega, ht⟩) (fun q hq => by cases hq) d_R_find_48
  ·
    exact absurd (z_mx fr) c24
set_option maxHeartbeats 4000000 in
set_option maxRecDepth 100000 in
theorem c_R_audit_f (l : Launch) (dC : Nat → ClassId) (dI : Nat → Nat → Nat) (ad cd : Nat → Nat) (w wr fl : Nat → Int32) (pw sc : Int32) (lw rot vb : Nat → Int32) (rec tk : Int32) (live row : Nat → Int32) (cur ser dur wo : Int32) (bts : Nat → Int32) (us : Int32) (act : Nat → Int32) (rd rs : Int32) (fr to : Int32) : Met l y_R_audit w_R_audit ({ frames := 1, cells := 0, slots := 0, locals := 20 }) (xR (dC, dI) vwCl (xt cd) (xw ad cd w wr fl (nI 1) (-1) lw rot vb (nI 0) (nI 0) live row (-1) (nI 0) (nI 0) (nI 0) bts (nI 0) act (nI 0) (nI 0)) [.ref (ad 0), .int fr, .int to]) (vp_Si (fun r => r = nI 0)) 0 0 (fun _ => False) := by
  refine Met.ofW (cc := b_R_audit) (maxL := 5) (ret := (some (.int))) (by decide) rfl ?_
  intro P e s m args below meth c0 s₁ B hml hv
  obtain ⟨rfl, hP, hK⟩ := hv
  have hx := B.exec
  have hb := B.bytes
  have hr := B.returns
  have hts := atoms_spec (ws := w_R_audit) B.pre
  have hown : s.vm.findClass R_R = some m.cls := findClass_of_methodNamed B.named
  have hlocks := B.notSynchronized
  have hl := lv_entry ([.ref (ad 0), .int fr, .int to]) (n := 5) (Nat.le_of_ble_eq_true rfl)
  rw [lg_entry_eq]
  generalize (lg_sl ([.ref (ad 0), .int fr, .int to]) ++ List.replicate (5 - (lg_sl ([.ref (ad 0), .int fr, .int to])).length) Slot.unset).toArray = ls at hl ⊢
  have hl : lv_has ls 5 [(0, .ref (ad 0)), (1, .int fr), (2, .int to)] := hl
  refine lv_aload_n hx hb d_R_audit_0 rfl (lv_at hl 0 rfl) ?_
  refine va_get (D := (dC, dI)) (ci := 4) (v := .ref (ad 2)) (C := R_R) (T := F_R) (N := 7) hx hb hts (fun w h => List.mem_cons_of_mem _ (in_R w h)) hown hK hP 0 rfl rfl 1 (by decide) (hts (.fieldLink R_R 20 R_R "chip" "LWeighRecorder$Chip;") (List.mem_cons_of_mem _ t_115)) (fun _ h9 => h9) rfl d_R_audit_1 ?_
  refine vp_callSi (va_runV (C := R_C) (As := []) (rest := []) ⟨hx, hb, hml, hown, hts⟩ (c_C_isPowered l dC dI ad cd w wr fl (nI 1) (-1) lw rot vb (nI 0) (nI 0) live row (-1) (nI 0) (nI 0) (nI 0) bts (nI 0) act (nI 0) (nI 0)  (by first | omega | rfl | assumption | decide)) (cwV 0 hts (g_V t_225 t_226 t_227 t_3 t_228) rfl rfl rfl (by decide +kernel) ⟨by decide, by decide⟩) (xR_v hP hK 2 rfl rfl) rfl rfl hl.1 rfl (lv_room (Nat.le_of_ble_eq_true rfl)) d_R_audit_4 ⟨Nat.le_refl _, Nat.le_refl _⟩).run (fun r4 q4 => ?_)
  subst q4
  refine va_csv (va_runS (As := [.int (nI 1)]) (rest := []) ⟨hx, hb, hml, hown, hts⟩ (c_R_requireState_1 l dC dI  ) (cwS 1 hts (g_S t_338 t_339 t_1 t_340) rfl rfl rfl (by decide +kernel) ⟨by decide, by decide⟩) (xR_s (va_P.sub hP [] rfl) (hK.sub [] rfl)) rfl rfl hl.1 rfl (lv_room (Nat.le_of_ble_eq_true rfl)) d_R_audit_7 ⟨Nat.le_refl _, Nat.le_refl _⟩).run (fun q7 => ?_)
  refine lv_iload_n hx hb d_R_audit_10 rfl (lv_at hl 2 rfl) ?_
  refine lv_aload_n hx hb d_R_audit_11 rfl (lv_at hl 0 rfl) ?_
  refine va_get (D := (dC, dI)) (ci := 4) (v := .ref (ad 3)) (C := R_R) (T := F_R) (N := 7) hx hb hts (fun w h => List.mem_cons_of_mem _ (in_R w h)) hown hK hP 0 rfl rfl 2 (by decide) (hts (.fieldLink R_R 26 R_R "log" "LWeighRecorder$Log;") (List.mem_cons_of_mem _ t_116)) (fun _ h9 => h9) rfl d_R_audit_12 ?_
  refine vp_callSi (va_runV (C := R_G) (As := []) (rest := [.int to]) ⟨hx, hb, hml, hown, hts⟩ (c_G_ticketCount l dC dI ad cd w wr fl (nI 1) (-1) lw rot vb (nI 0) (nI 0) live row (-1) (nI 0) (nI 0) (nI 0) bts (nI 0) act (nI 0) (nI 0)  ) (cwV 0 hts (g_V t_217 t_218 t_219 t_4 t_220) rfl rfl rfl (by decide +kernel) ⟨by decide, by decide⟩) (xR_v hP hK 3 rfl rfl) rfl rfl hl.1 rfl (lv_room (Nat.le_of_ble_eq_true rfl)) d_R_audit_15 ⟨Nat.le_refl _, Nat.le_refl _⟩).run (fun r15 q15 => ?_)
  subst q15
  refine va_mmin hx hb (hml.trans hl.1.symm) hown (hts (.methodLink R_R 133 Lib.Math.min.name) (List.mem_cons_of_mem _ t_567)) (hts (.static Lib.Math.min.name) (List.mem_cons_of_mem _ t_568)) (hts (.initialized "java/lang/Math") (List.mem_cons_of_mem _ t_13)) (hts (.code Lib.Math.min.name Lib.Math.min.code 2 (some .int)) (List.mem_cons_of_mem _ t_569)) (by decide) (by decide) (Nat.zero_le _) (Nat.zero_le _) d_R_audit_18 ?_
  refine lv_istore_n hx hb d_R_audit_21 rfl hl (by decide) rfl (fun ls hl => ?_)
  have hl : lv_has ls 5 [(3, .int (if (nI 0) < to then (nI 0) else to)), (0, .ref (ad 0)), (1, .int fr), (2, .int to)] := hl
  refine lv_iload_n hx hb d_R_audit_22 rfl (lv_at hl 2 rfl) ?_
  refine lv_iconst (v := nI 1) hx hb d_R_audit_23 (by decide) ?_
  refine va_mmax hx hb (hml.trans hl.1.symm) hown (hts (.methodLink R_R 139 Lib.Math.max.name) (List.mem_cons_of_mem _ t_570)) (hts (.static Lib.Math.max.name) (List.mem_cons_of_mem _ t_571)) (hts (.initialized "java/lang/Math") (List.mem_cons_of_mem _ t_13)) (hts (.code Lib.Math.max.name Lib.Math.max.code 2 (some .int)) (List.mem_cons_of_mem _ t_572)) (by decide) (by decide) (Nat.zero_le _) (Nat.zero_le _) d_R_audit_24 ?_
  refine lv_istore hx hb d_R_audit_27 hl (by decide) rfl (fun ls hl => ?_)
  have hl : lv_has ls 5 [(4, .int (if fr < (nI 1) then (nI 1) else fr)), (3, .int (if (nI 0) < to then (nI 0) else to)), (0, .ref (ad 0)), (1, .int fr), (2, .int to)] := hl
  refine lv_iload hx hb d_R_audit_29 (lv_at hl 0 rfl) ?_
  refine lv_iload_n hx hb d_R_audit_31 rfl (lv_at hl 1 rfl) ?_
  refine lv_icmp_gt (tgt := 63) hx hb d_R_audit_32 (by decide) (fun c32 => ?_) (fun c32 => ?_)
  ·
    refine lv_iconst (v := nI 0) hx hb d_R_audit_63 (by decide) ?_
    exact W.iret (v := nI 0) hx hb hr (fun t ht hW => ⟨nI 0, rfl, by first | rfl | trivial | omega, ht⟩) (fun q hq => by cases hq) d_R_audit_64
  ·
    exact absurd (mn_mx to fr) c32
set_option maxHeartbeats 4000000 in
set_option maxRecDepth 100000 in
theorem c_R_exportByte_f (l : Launch) (dC : Nat → ClassId) (dI : Nat → Nat → Nat) (ad cd : Nat → Nat) (w wr fl : Nat → Int32) (pw sc : Int32) (lw rot vb : Nat → Int32) (rec tk : Int32) (live row : Nat → Int32) (cur ser dur wo : Int32) (bts : Nat → Int32) (us : Int32) (act : Nat → Int32) (rd rs : Int32) (fr to ix : Int32) : Met l y_R_exportByte w_R_exportByte ({ frames := 1, cells := 0, slots := 0, locals := 20 }) (xR (dC, dI) vwCl (xt cd) (xw ad cd w wr fl (nI 1) (-1) lw rot vb (nI 0) (nI 0) live row (-1) (nI 0) (nI 0) (nI 0) bts (nI 0) act (nI 0) (nI 0)) [.ref (ad 0), .int fr, .int to, .int ix]) (vp_Si (fun r => r = -1)) 0 0 (fun _ => False) := by
  refine Met.ofW (cc := b_R_exportByte) (maxL := 7) (ret := (some (.int))) (by decide) rfl ?_
  intro P e s m args below meth c0 s₁ B hml hv
  obtain ⟨rfl, hP, hK⟩ := hv
  have hx := B.exec
  have hb := B.bytes
  have hr := B.returns
  have hts := atoms_spec (ws := w_R_exportByte) B.pre
  have hown : s.vm.findClass R_R = some m.cls := findClass_of_methodNamed B.named
  have hlocks := B.notSynchronized
  have hl := lv_entry ([.ref (ad 0), .int fr, .int to, .int ix]) (n := 7) (Nat.le_of_ble_eq_true rfl)
  rw [lg_entry_eq]
  generalize (lg_sl ([.ref (ad 0), .int fr, .int to, .int ix]) ++ List.replicate (7 - (lg_sl ([.ref (ad 0), .int fr, .int to, .int ix])).length) Slot.unset).toArray = ls at hl ⊢
  have hl : lv_has ls 7 [(0, .ref (ad 0)), (1, .int fr), (2, .int to), (3, .int ix)] := hl
  refine lv_aload_n hx hb d_R_exportByte_0 rfl (lv_at hl 0 rfl) ?_
  refine va_get (D := (dC, dI)) (ci := 4) (v := .ref (ad 2)) (C := R_R) (T := F_R) (N := 7) hx hb hts (fun w h => List.mem_cons_of_mem _ (in_R w h)) hown hK hP 0 rfl rfl 1 (by decide) (hts (.fieldLink R_R 20 R_R "chip" "LWeighRecorder$Chip;") (List.mem_cons_of_mem _ t_115)) (fun _ h9 => h9) rfl d_R_exportByte_1 ?_
  refine vp_callSi (va_runV (C := R_C) (As := []) (rest := []) ⟨hx, hb, hml, hown, hts⟩ (c_C_isPowered l dC dI ad cd w wr fl (nI 1) (-1) lw rot vb (nI 0) (nI 0) live row (-1) (nI 0) (nI 0) (nI 0) bts (nI 0) act (nI 0) (nI 0)  (by first | omega | rfl | assumption | decide)) (cwV 0 hts (g_V t_225 t_226 t_227 t_3 t_228) rfl rfl rfl (by decide +kernel) ⟨by decide, by decide⟩) (xR_v hP hK 2 rfl rfl) rfl rfl hl.1 rfl (lv_room (Nat.le_of_ble_eq_true rfl)) d_R_exportByte_4 ⟨Nat.le_refl _, Nat.le_refl _⟩).run (fun r4 q4 => ?_)
  subst q4
  refine va_csv (va_runS (As := [.int (nI 1)]) (rest := []) ⟨hx, hb, hml, hown, hts⟩ (c_R_requireState_1 l dC dI  ) (cwS 1 hts (g_S t_338 t_339 t_1 t_340) rfl rfl rfl (by decide +kernel) ⟨by decide, by decide⟩) (xR_s (va_P.sub hP [] rfl) (hK.sub [] rfl)) rfl rfl hl.1 rfl (lv_room (Nat.le_of_ble_eq_true rfl)) d_R_exportByte_7 ⟨Nat.le_refl _, Nat.le_refl _⟩).run (fun q7 => ?_)
  refine lv_iload_n hx hb d_R_exportByte_10 rfl (lv_at hl 3 rfl) ?_
  refine lv_if_ge (tgt := 16) hx hb d_R_exportByte_11 (by decide) (fun c11 => ?_) (fun c11 => ?_)
  ·
    refine lv_iload_n hx hb d_R_exportByte_16 rfl (lv_at hl 2 rfl) ?_
    refine lv_aload_n hx hb d_R_exportByte_17 rfl (lv_at hl 0 rfl) ?_
    refine va_get (D := (dC, dI)) (ci := 4) (v := .ref (ad 3)) (C := R_R) (T := F_R) (N := 7) hx hb hts (fun w h => List.mem_cons_of_mem _ (in_R w h)) hown hK hP 0 rfl rfl 2 (by decide) (hts (.fieldLink R_R 26 R_R "log" "LWeighRecorder$Log;") (List.mem_cons_of_mem _ t_116)) (fun _ h9 => h9) rfl d_R_exportByte_18 ?_
    refine vp_callSi (va_runV (C := R_G) (As := []) (rest := [.int to]) ⟨hx, hb, hml, hown, hts⟩ (c_G_ticketCount l dC dI ad cd w wr fl (nI 1) (-1) lw rot vb (nI 0) (nI 0) live row (-1) (nI 0) (nI 0) (nI 0) bts (nI 0) act (nI 0) (nI 0)  ) (cwV 0 hts (g_V t_217 t_218 t_219 t_4 t_220) rfl rfl rfl (by decide +kernel) ⟨by decide, by decide⟩) (xR_v hP hK 3 rfl rfl) rfl rfl hl.1 rfl (lv_room (Nat.le_of_ble_eq_true rfl)) d_R_exportByte_21 ⟨Nat.le_refl _, Nat.le_refl _⟩).run (fun r21 q21 => ?_)
    subst q21
    refine va_mmin hx hb (hml.trans hl.1.symm) hown (hts (.methodLink R_R 133 Lib.Math.min.name) (List.mem_cons_of_mem _ t_567)) (hts (.static Lib.Math.min.name) (List.mem_cons_of_mem _ t_568)) (hts (.initialized "java/lang/Math") (List.mem_cons_of_mem _ t_13)) (hts (.code Lib.Math.min.name Lib.Math.min.code 2 (some .int)) (List.mem_cons_of_mem _ t_569)) (by decide) (by decide) (Nat.zero_le _) (Nat.zero_le _) d_R_exportByte_24 ?_
    refine lv_istore hx hb d_R_exportByte_27 hl (by decide) rfl (fun ls hl => ?_)
    have hl : lv_has ls 7 [(4, .int (if (nI 0) < to then (nI 0) else to)), (0, .ref (ad 0)), (1, .int fr), (2, .int to), (3, .int ix)] := hl
    refine lv_iload_n hx hb d_R_exportByte_29 rfl (lv_at hl 4 rfl) ?_
    refine lv_istore hx hb d_R_exportByte_30 hl (by decide) rfl (fun ls hl => ?_)
    have hl : lv_has ls 7 [(5, .int ix), (4, .int (if (nI 0) < to then (nI 0) else to)), (0, .ref (ad 0)), (1, .int fr), (2, .int to), (3, .int ix)] := hl
    refine lv_iload_n hx hb d_R_exportByte_32 rfl (lv_at hl 3 rfl) ?_
    refine lv_iconst (v := nI 1) hx hb d_R_exportByte_33 (by decide) ?_
    refine va_mmax hx hb (hml.trans hl.1.symm) hown (hts (.methodLink R_R 139 Lib.Math.max.name) (List.mem_cons_of_mem _ t_570)) (hts (.static Lib.Math.max.name) (List.mem_cons_of_mem _ t_571)) (hts (.initialized "java/lang/Math") (List.mem_cons_of_mem _ t_13)) (hts (.code Lib.Math.max.name Lib.Math.max.code 2 (some .int)) (List.mem_cons_of_mem _ t_572)) (by decide) (by decide) (Nat.zero_le _) (Nat.zero_le _) d_R_exportByte_34 ?_
    refine lv_istore hx hb d_R_exportByte_37 hl (by decide) rfl (fun ls hl => ?_)
    have hl : lv_has ls 7 [(6, .int (if fr < (nI 1) then (nI 1) else fr)), (5, .int ix), (4, .int (if (nI 0) < to then (nI 0) else to)), (0, .ref (ad 0)), (1, .int fr), (2, .int to), (3, .int ix)] := hl
    refine lv_iload hx hb d_R_exportByte_39 (lv_at hl 0 rfl) ?_
    refine lv_iload hx hb d_R_exportByte_41 (lv_at hl 2 rfl) ?_
    refine lv_icmp_gt (tgt := 99) hx hb d_R_exportByte_43 (by decide) (fun c43 => ?_) (fun c43 => ?_)
    ·
      refine lv_iconst (v := (-1)) hx hb d_R_exportByte_99 (by decide) ?_
      exact W.iret (v := (-1)) hx hb hr (fun t ht hW => ⟨(-1), rfl, by first | rfl | trivial | omega, ht⟩) (fun q hq => by cases hq) d_R_exportByte_100
    ·
      exact absurd (mn_mx to fr) c43
  ·
    refine lv_iconst (v := (-1)) hx hb d_R_exportByte_14 (by decide) ?_
    exact W.iret (v := (-1)) hx hb hr (fun t ht hW => ⟨(-1), rfl, by first | rfl | trivial | omega, ht⟩) (fun q hq => by cases hq) d_R_exportByte_15
set_option maxHeartbeats 4000000 in
set_option maxRecDepth 100000 in
theorem c_R_setProduct_ok (l : Launch) (dC : Nat → ClassId) (dI : Nat → Nat → Nat) (ad cd : Nat → Nat) (sz : Nat) (w wr fl : Nat → Int32) (pw sc : Int32) (lw rot vb : Nat → Int32) (rec tk : Int32) (live row : Nat → Int32) (cur ser dur wo : Int32) (bts : Nat → Int32) (us : Int32) (act : Nat → Int32) (rd rs : Int32) (j : Nat) (b : Int32) (hj : j < 40) : Met l y_R_setProduct w_R_setProduct ({ frames := 2, cells := 0, slots := 0, locals := 42 }) (xP (dC, dI) vwCl (xt cd) (xw ad cd w wr fl (nI 1) (-1) lw rot vb (nI 0) (nI 0) live row (-1) (nI 0) (nI 0) (nI 0) bts (nI 0) act (nI 0) (nI 0)) sz [.ref (ad 0), .int (nI j), .int b]) (va_Qv (fun (u : Unit) => True) (fun (u : Unit) (t : State) => xB (dC, dI) vwCl (xt cd) (xA 15 ad sz) (xw ad cd w wr fl (nI 1) (-1) lw rot vb (nI 0) (nI 0) live row (-1) (nI 0) (nI 0) (nI 0) bts (nI 0) (upd act j (vp_nar .boolean b)) (nI 0) (nI 0)) t) (xA 15 ad sz)) 0 0 (xA 15 ad sz) := by
  refine Met.ofW (cc := b_R_setProduct) (maxL := 3) (ret := none) (by decide) rfl ?_
  intro P e s m args below meth c0 s₁ B hml hv
  obtain ⟨rfl, hsz, hP, hK, hD0⟩ := hv
  have hx := B.exec
  have hb := B.bytes
  have hr := B.returns
  have hts := atoms_spec (ws := w_R_setProduct) B.pre
  have hown : s.vm.findClass R_R = some m.cls := findClass_of_methodNamed B.named
  have hlocks := B.notSynchronized
  subst hsz
  have hD := xw_D (sz := s.heap.size) hD0
  have hS : va_S (xA 15 ad s.heap.size) s.heap s.heap [] := va_S.rf
  have hA : ∀ q : Nat, s.heap.size ≤ q → (xA 15 ad s.heap.size) q := fun q h => Or.inr h
  have hl := lv_entry ([.ref (ad 0), .int (nI j), .int b]) (n := 3) (Nat.le_of_ble_eq_true rfl)
  rw [lg_entry_eq]
  generalize (lg_sl ([.ref (ad 0), .int (nI j), .int b]) ++ List.replicate (3 - (lg_sl ([.ref (ad 0), .int (nI j), .int b])).length) Slot.unset).toArray = ls at hl ⊢
  have hl : lv_has ls 3 [(0, .ref (ad 0)), (1, .int (nI j)), (2, .int b)] := hl
  refine lv_iload_n hx hb d_R_setProduct_0 rfl (lv_at hl 1 rfl) ?_
  refine vp_callSi (va_runS (As := [.int (nI j)]) (rest := []) ⟨hx, hb, hml, hown, hts⟩ (c_R_isProduct l dC dI (nI j) ) (cwS 1 hts (g_S t_364 t_365 t_1 t_366) rfl rfl rfl (by decide +kernel) ⟨by decide, by decide⟩) (xR_s (va_P.sub hP [] rfl) (hK.sub [] rfl)) rfl rfl hl.1 rfl (lv_room (Nat.le_of_ble_eq_true rfl)) d_R_setProduct_1 ⟨Nat.le_refl _, Nat.le_refl _⟩).run (fun r1 q1 => ?_)
  obtain ⟨rfl, -⟩ := q1.resolve_right (fun z => z.2 (⟨(nI_leI (by decide) (by omega)).mpr (Nat.zero_le _), (nI_leI (by omega) (by decide)).mpr (by omega)⟩))
  refine va_csv (va_runS (As := [.int (nI 1)]) (rest := []) ⟨hx, hb, hml, hown, hts⟩ (c_R_requireArgument_1 l dC dI  ) (cwS 1 hts (g_S t_272 t_273 t_1 t_274) rfl rfl rfl (by decide +kernel) ⟨by decide, by decide⟩) (xR_s (va_P.sub hP [] rfl) (hK.sub [] rfl)) rfl rfl hl.1 rfl (lv_room (Nat.le_of_ble_eq_true rfl)) d_R_setProduct_4 ⟨Nat.le_refl _, Nat.le_refl _⟩).run (fun q4 => ?_)
  refine lv_aload_n hx hb d_R_setProduct_7 rfl (lv_at hl 0 rfl) ?_
  refine va_get (D := (dC, dI)) (ci := 4) (v := .ref (ad 5)) (C := R_R) (T := F_R) (N := 7) hx hb hts (fun w h => List.mem_cons_of_mem _ (in_R w h)) hown hK hP 0 rfl rfl 4 (by decide) (hts (.fieldLink R_R 37 R_R "active" "[Z") (List.mem_cons_of_mem _ t_118)) (fun _ h9 => h9) rfl d_R_setProduct_8 ?_
  refine lv_iload_n hx hb d_R_setProduct_11 rfl (lv_at hl 1 rfl) ?_
  refine lv_iload_n hx hb d_R_setProduct_12 rfl (lv_at hl 2 rfl) ?_
  refine va_zast hx hb hK hP hD hS 5 0 rfl rfl (vp_in_nI (by omega) (by decide)) d_R_setProduct_13 (fun H locs hP hD hS => ?_)
  rw [nI_clamp (by omega)] at hP hD
  have hP : va_P (dC, dI) vwCl (xw ad cd w wr fl (nI 1) (-1) lw rot vb (nI 0) (nI 0) live row (-1) (nI 0) (nI 0) (nI 0) bts (nI 0) (upd act j (vp_nar .boolean b)) (nI 0) (nI 0)) H := hP
  have hD : va_D (xA 15 ad s.heap.size) (xw ad cd w wr fl (nI 1) (-1) lw rot vb (nI 0) (nI 0) live row (-1) (nI 0) (nI 0) (nI 0) bts (nI 0) (upd act j (vp_nar .boolean b)) (nI 0) (nI 0)) := hD
  exact W.vret hx hb hr (fun t ht hW => ⟨⟨(), rfl, by first | rfl | trivial | omega, ⟨by rw [ht]; exact hP, va_K.moved hW.alike hK, hD⟩⟩, hS.F ht⟩) hS.2.2 d_R_setProduct_14
set_option maxHeartbeats 4000000 in
set_option maxRecDepth 100000 in
theorem c_R_cutAfter_ok (l : Launch) (dC : Nat → ClassId) (dI : Nat → Nat → Nat) (ad cd : Nat → Nat) (sz : Nat) (w wr fl : Nat → Int32) (pw sc : Int32) (lw rot vb : Nat → Int32) (rec tk : Int32) (live row : Nat → Int32) (cur ser dur wo : Int32) (bts : Nat → Int32) (us : Int32) (act : Nat → Int32) (rd rs : Int32) (n : Int32) (hok : nI 0 ≤ n ∧ n ≤ nI 300) : Met l y_R_cutAfter w_R_cutAfter ({ frames := 1, cells := 0, slots := 0, locals := 22 }) (xP (dC, dI) vwCl (xt cd) (xw ad cd w wr fl (nI 1) (-1) lw rot vb (nI 0) (nI 0) live row (-1) (nI 0) (nI 0) (nI 0) bts (nI 0) act (nI 0) (nI 0)) sz [.ref (ad 0), .int n]) (va_Qv (fun (u : Unit) => True) (fun (u : Unit) (t : State) => xB (dC, dI) vwCl (xt cd) (xA 15 ad sz) (xw ad cd w wr fl (nI 1) n lw rot vb (nI 0) (nI 0) live row (-1) (nI 0) (nI 0) (nI 0) bts (nI 0) act (nI 0) (nI 0)) t) (xA 15 ad sz)) 0 0 (xA 15 ad sz) := by
  refine Met.ofW (cc := b_R_cutAfter) (maxL := 2) (ret := none) (by decide) rfl ?_
  intro P e s m args below meth c0 s₁ B hml hv
  obtain ⟨rfl, hsz, hP, hK, hD0⟩ := hv
  have hx := B.exec
  have hb := B.bytes
  have hr := B.returns
  have hts := atoms_spec (ws := w_R_cutAfter) B.pre
  have hown : s.vm.findClass R_R = some m.cls := findClass_of_methodNamed B.named
  have hlocks := B.notSynchronized
  subst hsz
  have hD := xw_D (sz := s.heap.size) hD0
  have hS : va_S (xA 15 ad s.heap.size) s.heap s.heap [] := va_S.rf
  have hA : ∀ q : Nat, s.heap.size ≤ q → (xA 15 ad s.heap.size) q := fun q h => Or.inr h
  have hl := lv_entry ([.ref (ad 0), .int n]) (n := 2) (Nat.le_of_ble_eq_true rfl)
  rw [lg_entry_eq]
  generalize (lg_sl ([.ref (ad 0), .int n]) ++ List.replicate (2 - (lg_sl ([.ref (ad 0), .int n])).length) Slot.unset).toArray = ls at hl ⊢
  have hl : lv_has ls 2 [(0, .ref (ad 0)), (1, .int n)] := hl
  refine lv_iload_n hx hb d_R_cutAfter_0 rfl (lv_at hl 1 rfl) ?_
  refine lv_iconst (v := nI 0) hx hb d_R_cutAfter_1 (by decide) ?_
  refine lv_sipush (v := nI 300) hx hb d_R_cutAfter_2 (by decide) ?_
  refine vp_callSi (va_runS (As := [.int n, .int (nI 0), .int (nI 300)]) (rest := []) ⟨hx, hb, hml, hown, hts⟩ (c_R_isWithin l dC dI n (nI 0) (nI 300) ) (cwS 3 hts (g_S t_271 t_207 t_1 t_208) rfl rfl rfl (by decide +kernel) ⟨by decide, by decide⟩) (xR_s (va_P.sub hP [] rfl) (hK.sub [] rfl)) rfl rfl hl.1 rfl (lv_room (Nat.le_of_ble_eq_true rfl)) d_R_cutAfter_5 ⟨Nat.le_refl _, Nat.le_refl _⟩).run (fun r5 q5 => ?_)
  obtain ⟨rfl, -⟩ := q5.resolve_right (fun z => z.2 (hok))
  refine va_csv (va_runS (As := [.int (nI 1)]) (rest := []) ⟨hx, hb, hml, hown, hts⟩ (c_R_requireArgument_1 l dC dI  ) (cwS 1 hts (g_S t_272 t_273 t_1 t_274) rfl rfl rfl (by decide +kernel) ⟨by decide, by decide⟩) (xR_s (va_P.sub hP [] rfl) (hK.sub [] rfl)) rfl rfl hl.1 rfl (lv_room (Nat.le_of_ble_eq_true rfl)) d_R_cutAfter_8 ⟨Nat.le_refl _, Nat.le_refl _⟩).run (fun q8 => ?_)
  refine lv_aload_n hx hb d_R_cutAfter_11 rfl (lv_at hl 0 rfl) ?_
  refine va_get (D := (dC, dI)) (ci := 4) (v := .ref (ad 2)) (C := R_R) (T := F_R) (N := 7) hx hb hts (fun w h => List.mem_cons_of_mem _ (in_R w h)) hown hK hP 0 rfl rfl 1 (by decide) (hts (.fieldLink R_R 20 R_R "chip" "LWeighRecorder$Chip;") (List.mem_cons_of_mem _ t_115)) (fun _ h9 => h9) rfl d_R_cutAfter_12 ?_
  refine lv_iload_n hx hb d_R_cutAfter_15 rfl (lv_at hl 1 rfl) ?_
  have hSz := hS.1
  refine va_callv (va_runV (C := R_C) (As := [.int n]) (rest := []) ⟨hx, hb, hml, hown, hts⟩ (c_C_tellCut l dC dI ad cd s.heap.size w wr fl (nI 1) (-1) lw rot vb (nI 0) (nI 0) live row (-1) (nI 0) (nI 0) (nI 0) bts (nI 0) act (nI 0) (nI 0) n ) (cwV 1 hts (g_V t_654 t_655 t_656 t_3 t_657) rfl rfl rfl (by decide +kernel) ⟨by decide, by decide⟩) (xP_v hP hK hD 2 rfl rfl) rfl rfl hl.1 rfl (lv_room (Nat.le_of_ble_eq_true rfl)) d_R_cutAfter_16 ⟨Nat.le_refl _, Nat.le_refl _⟩) hS (fun q _ h => xA_up hS.1 q h) (fun q h => xA_up hS.1 q h) (fun u16 t H1 locs1 ht hvm q16 hB hz1 hk1 hS => ?_)
  obtain ⟨hP1, hK1, hD1⟩ := hB
  rw [ht] at hP1
  have hD : va_D (xA 15 ad s.heap.size) (xw ad cd w wr fl (nI 1) n lw rot vb (nI 0) (nI 0) live row (-1) (nI 0) (nI 0) (nI 0) bts (nI 0) act (nI 0) (nI 0)) := hD1.weaken (fun _ q _ h => xA_up hSz _ h)
  have hP : va_P (dC, dI) vwCl (xw ad cd w wr fl (nI 1) n lw rot vb (nI 0) (nI 0) live row (-1) (nI 0) (nI 0) (nI 0) bts (nI 0) act (nI 0) (nI 0)) H1 := hP1
  generalize H1 = H at hP hS ⊢
  generalize locs1 = locs at hS ⊢
  exact W.vret hx hb hr (fun t ht hW => ⟨⟨(), rfl, by first | rfl | trivial | omega, ⟨by rw [ht]; exact hP, va_K.moved hW.alike hK, hD⟩⟩, hS.F ht⟩) hS.2.2 d_R_cutAfter_19
set_option maxHeartbeats 4000000 in
set_option maxRecDepth 100000 in
theorem c_R_wearOf_ok (l : Launch) (dC : Nat → ClassId) (dI : Nat → Nat → Nat) (ad cd : Nat → Nat) (w wr fl : Nat → Int32) (pw sc : Int32) (lw rot vb : Nat → Int32) (rec tk : Int32) (live row : Nat → Int32) (cur ser dur wo : Int32) (bts : Nat → Int32) (us : Int32) (act : Nat → Int32) (rd rs : Int32) (j : Nat) (hj : j < 8) : Met l y_R_wearOf w_R_wearOf ({ frames := 1, cells := 0, slots := 0, locals := 22 }) (xR (dC, dI) vwCl (xt cd) (xw ad cd w wr fl (nI 1) (-1) lw rot vb (nI 0) (nI 0) live row (-1) (nI 0) (nI 0) (nI 0) bts (nI 0) act (nI 0) (nI 0)) [.ref (ad 0), .int (nI j)]) (vp_Si (fun r => r = wr j)) 0 0 (fun _ => False) := by
  refine Met.ofW (cc := b_R_wearOf) (maxL := 2) (ret := (some (.int))) (by decide) rfl ?_
  intro P e s m args below meth c0 s₁ B hml hv
  obtain ⟨rfl, hP, hK⟩ := hv
  have hx := B.exec
  have hb := B.bytes
  have hr := B.returns
  have hts := atoms_spec (ws := w_R_wearOf) B.pre
  have hown : s.vm.findClass R_R = some m.cls := findClass_of_methodNamed B.named
  have hlocks := B.notSynchronized
  have hl := lv_entry ([.ref (ad 0), .int (nI j)]) (n := 2) (Nat.le_of_ble_eq_true rfl)
  rw [lg_entry_eq]
  generalize (lg_sl ([.ref (ad 0), .int (nI j)]) ++ List.replicate (2 - (lg_sl ([.ref (ad 0), .int (nI j)])).length) Slot.unset).toArray = ls at hl ⊢
  have hl : lv_has ls 2 [(0, .ref (ad 0)), (1, .int (nI j))] := hl
  refine lv_iload_n hx hb d_R_wearOf_0 rfl (lv_at hl 1 rfl) ?_
  refine lv_iconst (v := nI 0) hx hb d_R_wearOf_1 (by decide) ?_
  refine lv_bipush (v := nI 7) hx hb d_R_wearOf_2 (by decide) ?_
  refine vp_callSi (va_runS (As := [.int (nI j), .int (nI 0), .int (nI 7)]) (rest := []) ⟨hx, hb, hml, hown, hts⟩ (c_R_isWithin l dC dI (nI j) (nI 0) (nI 7) ) (cwS 3 hts (g_S t_271 t_207 t_1 t_208) rfl rfl rfl (by decide +kernel) ⟨by decide, by decide⟩) (xR_s (va_P.sub hP [] rfl) (hK.sub [] rfl)) rfl rfl hl.1 rfl (lv_room (Nat.le_of_ble_eq_true rfl)) d_R_wearOf_4 ⟨Nat.le_refl _, Nat.le_refl _⟩).run (fun r4 q4 => ?_)
  obtain ⟨rfl, -⟩ := q4.resolve_right (fun z => z.2 (⟨(nI_leI (by decide) (by omega)).mpr (Nat.zero_le _), (nI_leI (by omega) (by decide)).mpr (by omega)⟩))
  refine va_csv (va_runS (As := [.int (nI 1)]) (rest := []) ⟨hx, hb, hml, hown, hts⟩ (c_R_requireArgument_1 l dC dI  ) (cwS 1 hts (g_S t_272 t_273 t_1 t_274) rfl rfl rfl (by decide +kernel) ⟨by decide, by decide⟩) (xR_s (va_P.sub hP [] rfl) (hK.sub [] rfl)) rfl rfl hl.1 rfl (lv_room (Nat.le_of_ble_eq_true rfl)) d_R_wearOf_7 ⟨Nat.le_refl _, Nat.le_refl _⟩).run (fun q7 => ?_)
  refine lv_aload_n hx hb d_R_wearOf_10 rfl (lv_at hl 0 rfl) ?_
  refine va_get (D := (dC, dI)) (ci := 4) (v := .ref (ad 2)) (C := R_R) (T := F_R) (N := 7) hx hb hts (fun w h => List.mem_cons_of_mem _ (in_R w h)) hown hK hP 0 rfl rfl 1 (by decide) (hts (.fieldLink R_R 20 R_R "chip" "LWeighRecorder$Chip;") (List.mem_cons_of_mem _ t_115)) (fun _ h9 => h9) rfl d_R_wearOf_11 ?_
  refine lv_iload_n hx hb d_R_wearOf_14 rfl (lv_at hl 1 rfl) ?_
  refine vp_callSi (va_runV (C := R_C) (As := [.int (nI j)]) (rest := []) ⟨hx, hb, hml, hown, hts⟩ (c_C_wearAt l dC dI ad cd w wr fl (nI 1) (-1) lw rot vb (nI 0) (nI 0) live row (-1) (nI 0) (nI 0) (nI 0) bts (nI 0) act (nI 0) (nI 0) j (by first | omega | rfl | assumption | decide)) (cwV 1 hts (g_V t_665 t_666 t_667 t_3 t_668) rfl rfl rfl (by decide +kernel) ⟨by decide, by decide⟩) (xR_v hP hK 2 rfl rfl) rfl rfl hl.1 rfl (lv_room (Nat.le_of_ble_eq_true rfl)) d_R_wearOf_15 ⟨Nat.le_refl _, Nat.le_refl _⟩).run (fun r15 q15 => ?_)
  subst q15
  exact W.iret (v := wr j) hx hb hr (fun t ht hW => ⟨wr j, rfl, by first | rfl | trivial | omega, ht⟩) (fun q hq => by cases hq) d_R_wearOf_18
set_option maxHeartbeats 4000000 in
set_option maxRecDepth 100000 in
theorem c_R_failBlock_ok (l : Launch) (dC : Nat → ClassId) (dI : Nat → Nat → Nat) (ad cd : Nat → Nat) (sz : Nat) (w wr fl : Nat → Int32) (pw sc : Int32) (lw rot vb : Nat → Int32) (rec tk : Int32) (live row : Nat → Int32) (cur ser dur wo : Int32) (bts : Nat → Int32) (us : Int32) (act : Nat → Int32) (rd rs : Int32) (j : Nat) (hj : j < 8) : Met l y_R_failBlock w_R_failBlock ({ frames := 1, cells := 0, slots := 0, locals := 22 }) (xP (dC, dI) vwCl (xt cd) (xw ad cd w wr fl (nI 1) (-1) lw rot vb (nI 0) (nI 0) live row (-1) (nI 0) (nI 0) (nI 0) bts (nI 0) act (nI 0) (nI 0)) sz [.ref (ad 0), .int (nI j)]) (va_Qv (fun (u : Unit) => True) (fun (u : Unit) (t : State) => xB (dC, dI) vwCl (xt cd) (xA 15 ad sz) (xw ad cd w wr (upd fl j (vp_nar .boolean (nI 1))) (nI 1) (-1) lw rot vb (nI 0) (nI 0) live row (-1) (nI 0) (nI 0) (nI 0) bts (nI 0) act (nI 0) (nI 0)) t) (xA 15 ad sz)) 0 0 (xA 15 ad sz) := by
  refine Met.ofW (cc := b_R_failBlock) (maxL := 2) (ret := none) (by decide) rfl ?_
  intro P e s m args below meth c0 s₁ B hml hv
  obtain ⟨rfl, hsz, hP, hK, hD0⟩ := hv
  have hx := B.exec
  have hb := B.bytes
  have hr := B.returns
  have hts := atoms_spec (ws := w_R_failBlock) B.pre
  have hown : s.vm.findClass R_R = some m.cls := findClass_of_methodNamed B.named
  have hlocks := B.notSynchronized
  subst hsz
  have hD := xw_D (sz := s.heap.size) hD0
  have hS : va_S (xA 15 ad s.heap.size) s.heap s.heap [] := va_S.rf
  have hA : ∀ q : Nat, s.heap.size ≤ q → (xA 15 ad s.heap.size) q := fun q h => Or.inr h
  have hl := lv_entry ([.ref (ad 0), .int (nI j)]) (n := 2) (Nat.le_of_ble_eq_true rfl)
  rw [lg_entry_eq]
  generalize (lg_sl ([.ref (ad 0), .int (nI j)]) ++ List.replicate (2 - (lg_sl ([.ref (ad 0), .int (nI j)])).length) Slot.unset).toArray = ls at hl ⊢
  have hl : lv_has ls 2 [(0, .ref (ad 0)), (1, .int (nI j))] := hl
  refine lv_iload_n hx hb d_R_failBlock_0 rfl (lv_at hl 1 rfl) ?_
  refine lv_iconst (v := nI 0) hx hb d_R_failBlock_1 (by decide) ?_
  refine lv_bipush (v := nI 7) hx hb d_R_failBlock_2 (by decide) ?_
  refine vp_callSi (va_runS (As := [.int (nI j), .int (nI 0), .int (nI 7)]) (rest := []) ⟨hx, hb, hml, hown, hts⟩ (c_R_isWithin l dC dI (nI j) (nI 0) (nI 7) ) (cwS 3 hts (g_S t_271 t_207 t_1 t_208) rfl rfl rfl (by decide +kernel) ⟨by decide, by decide⟩) (xR_s (va_P.sub hP [] rfl) (hK.sub [] rfl)) rfl rfl hl.1 rfl (lv_room (Nat.le_of_ble_eq_true rfl)) d_R_failBlock_4 ⟨Nat.le_refl _, Nat.le_refl _⟩).run (fun r4 q4 => ?_)
  obtain ⟨rfl, -⟩ := q4.resolve_right (fun z => z.2 (⟨(nI_leI (by decide) (by omega)).mpr (Nat.zero_le _), (nI_leI (by omega) (by decide)).mpr (by omega)⟩))
  refine va_csv (va_runS (As := [.int (nI 1)]) (rest := []) ⟨hx, hb, hml, hown, hts⟩ (c_R_requireArgument_1 l dC dI  ) (cwS 1 hts (g_S t_272 t_273 t_1 t_274) rfl rfl rfl (by decide +kernel) ⟨by decide, by decide⟩) (xR_s (va_P.sub hP [] rfl) (hK.sub [] rfl)) rfl rfl hl.1 rfl (lv_room (Nat.le_of_ble_eq_true rfl)) d_R_failBlock_7 ⟨Nat.le_refl _, Nat.le_refl _⟩).run (fun q7 => ?_)
  refine lv_aload_n hx hb d_R_failBlock_10 rfl (lv_at hl 0 rfl) ?_
  refine va_get (D := (dC, dI)) (ci := 4) (v := .ref (ad 2)) (C := R_R) (T := F_R) (N := 7) hx hb hts (fun w h => List.mem_cons_of_mem _ (in_R w h)) hown hK hP 0 rfl rfl 1 (by decide) (hts (.fieldLink R_R 20 R_R "chip" "LWeighRecorder$Chip;") (List.mem_cons_of_mem _ t_115)) (fun _ h9 => h9) rfl d_R_failBlock_11 ?_
  refine lv_iload_n hx hb d_R_failBlock_14 rfl (lv_at hl 1 rfl) ?_
  have hSz := hS.1
  refine va_callv (va_runV (C := R_C) (As := [.int (nI j)]) (rest := []) ⟨hx, hb, hml, hown, hts⟩ (c_C_markFailed l dC dI ad cd s.heap.size w wr fl (nI 1) (-1) lw rot vb (nI 0) (nI 0) live row (-1) (nI 0) (nI 0) (nI 0) bts (nI 0) act (nI 0) (nI 0) j (by first | omega | rfl | assumption | decide)) (cwV 1 hts (g_V t_676 t_677 t_678 t_3 t_679) rfl rfl rfl (by decide +kernel) ⟨by decide, by decide⟩) (xP_v hP hK hD 2 rfl rfl) rfl rfl hl.1 rfl (lv_room (Nat.le_of_ble_eq_true rfl)) d_R_failBlock_15 ⟨Nat.le_refl _, Nat.le_refl _⟩) hS (fun q _ h => xA_up hS.1 q h) (fun q h => xA_up hS.1 q h) (fun u15 t H1 locs1 ht hvm q15 hB hz1 hk1 hS => ?_)
  obtain ⟨hP1, hK1, hD1⟩ := hB
  rw [ht] at hP1
  have hD : va_D (xA 15 ad s.heap.size) (xw ad cd w wr (upd fl j (vp_nar .boolean (nI 1))) (nI 1) (-1) lw rot vb (nI 0) (nI 0) live row (-1) (nI 0) (nI 0) (nI 0) bts (nI 0) act (nI 0) (nI 0)) := hD1.weaken (fun _ q _ h => xA_up hSz _ h)
  have hP : va_P (dC, dI) vwCl (xw ad cd w wr (upd fl j (vp_nar .boolean (nI 1))) (nI 1) (-1) lw rot vb (nI 0) (nI 0) live row (-1) (nI 0) (nI 0) (nI 0) bts (nI 0) act (nI 0) (nI 0)) H1 := hP1
  generalize H1 = H at hP hS ⊢
  generalize locs1 = locs at hS ⊢
  exact W.vret hx hb hr (fun t ht hW => ⟨⟨(), rfl, by first | rfl | trivial | omega, ⟨by rw [ht]; exact hP, va_K.moved hW.alike hK, hD⟩⟩, hS.F ht⟩) hS.2.2 d_R_failBlock_18
set_option maxHeartbeats 4000000 in
set_option maxRecDepth 100000 in
theorem c_R_poke_ok (l : Launch) (dC : Nat → ClassId) (dI : Nat → Nat → Nat) (ad cd : Nat → Nat) (sz : Nat) (w wr fl : Nat → Int32) (pw sc : Int32) (lw rot vb : Nat → Int32) (rec tk : Int32) (live row : Nat → Int32) (cur ser dur wo : Int32) (bts : Nat → Int32) (us : Int32) (act : Nat → Int32) (rd rs : Int32) (j k : Nat) (mask : Int32) (hj : j < 32) (hk : k < 16) : Met l y_R_poke w_R_poke ({ frames := 2, cells := 0, slots := 0, locals := 43 }) (xP (dC, dI) vwCl (xt cd) (xw ad cd w wr fl (nI 1) (-1) lw rot vb (nI 0) (nI 0) live row (-1) (nI 0) (nI 0) (nI 0) bts (nI 0) act (nI 0) (nI 0)) sz [.ref (ad 0), .int (nI j), .int (nI k), .int mask]) (va_Qv (fun (u : Unit) => True) (fun (u : Unit) (t : State) => xB (dC, dI) vwCl (xt cd) (xA 15 ad sz) (xw ad cd (upd w (j * 16 + k) (w (j * 16 + k) ^^^ mask)) wr fl (nI 1) (-1) lw rot vb (nI 0) (nI 0) live row (-1) (nI 0) (nI 0) (nI 0) bts (nI 0) act (nI 0) (nI 0)) t) (xA 15 ad sz)) 0 0 (xA 15 ad sz) := by
  refine Met.ofW (cc := b_R_poke) (maxL := 4) (ret := none) (by decide) rfl ?_
  intro P e s m args below meth c0 s₁ B hml hv
  obtain ⟨rfl, hsz, hP, hK, hD0⟩ := hv
  have hx := B.exec
  have hb := B.bytes
  have hr := B.returns
  have hts := atoms_spec (ws := w_R_poke) B.pre
  have hown : s.vm.findClass R_R = some m.cls := findClass_of_methodNamed B.named
  have hlocks := B.notSynchronized
  subst hsz
  have hD := xw_D (sz := s.heap.size) hD0
  have hS : va_S (xA 15 ad s.heap.size) s.heap s.heap [] := va_S.rf
  have hA : ∀ q : Nat, s.heap.size ≤ q → (xA 15 ad s.heap.size) q := fun q h => Or.inr h
  have hl := lv_entry ([.ref (ad 0), .int (nI j), .int (nI k), .int mask]) (n := 4) (Nat.le_of_ble_eq_true rfl)
  rw [lg_entry_eq]
  generalize (lg_sl ([.ref (ad 0), .int (nI j), .int (nI k), .int mask]) ++ List.replicate (4 - (lg_sl ([.ref (ad 0), .int (nI j), .int (nI k), .int mask])).length) Slot.unset).toArray = ls at hl ⊢
  have hl : lv_has ls 4 [(0, .ref (ad 0)), (1, .int (nI j)), (2, .int (nI k)), (3, .int mask)] := hl
  refine lv_iload_n hx hb d_R_poke_0 rfl (lv_at hl 1 rfl) ?_
  refine lv_iload_n hx hb d_R_poke_1 rfl (lv_at hl 2 rfl) ?_
  refine vp_callSi (va_runS (As := [.int (nI j), .int (nI k)]) (rest := []) ⟨hx, hb, hml, hown, hts⟩ (c_R_isPlace l dC dI (nI j) (nI k) ) (cwS 2 hts (g_S t_687 t_688 t_1 t_689) rfl rfl rfl (by decide +kernel) ⟨by decide, by decide⟩) (xR_s (va_P.sub hP [] rfl) (hK.sub [] rfl)) rfl rfl hl.1 rfl (lv_room (Nat.le_of_ble_eq_true rfl)) d_R_poke_2 ⟨Nat.le_refl _, Nat.le_refl _⟩).run (fun r2 q2 => ?_)
  obtain ⟨rfl, -⟩ := q2.resolve_right (fun z => z.2 (⟨⟨(nI_leI (by decide) (by omega)).mpr (Nat.zero_le _), (nI_leI (by omega) (by decide)).mpr (by omega)⟩, ⟨(nI_leI (by decide) (by omega)).mpr (Nat.zero_le _), (nI_leI (by omega) (by decide)).mpr (by omega)⟩⟩))
  refine va_csv (va_runS (As := [.int (nI 1)]) (rest := []) ⟨hx, hb, hml, hown, hts⟩ (c_R_requireArgument_1 l dC dI  ) (cwS 1 hts (g_S t_272 t_273 t_1 t_274) rfl rfl rfl (by decide +kernel) ⟨by decide, by decide⟩) (xR_s (va_P.sub hP [] rfl) (hK.sub [] rfl)) rfl rfl hl.1 rfl (lv_room (Nat.le_of_ble_eq_true rfl)) d_R_poke_5 ⟨Nat.le_refl _, Nat.le_refl _⟩).run (fun q5 => ?_)
  refine lv_aload_n hx hb d_R_poke_8 rfl (lv_at hl 0 rfl) ?_
  refine va_get (D := (dC, dI)) (ci := 4) (v := .ref (ad 2)) (C := R_R) (T := F_R) (N := 7) hx hb hts (fun w h => List.mem_cons_of_mem _ (in_R w h)) hown hK hP 0 rfl rfl 1 (by decide) (hts (.fieldLink R_R 20 R_R "chip" "LWeighRecorder$Chip;") (List.mem_cons_of_mem _ t_115)) (fun _ h9 => h9) rfl d_R_poke_9 ?_
  refine lv_iload_n hx hb d_R_poke_12 rfl (lv_at hl 1 rfl) ?_
  refine lv_iload_n hx hb d_R_poke_13 rfl (lv_at hl 2 rfl) ?_
  refine lv_iload_n hx hb d_R_poke_14 rfl (lv_at hl 3 rfl) ?_
  have hSz := hS.1
  refine va_callv (va_runV (C := R_C) (As := [.int (nI j), .int (nI k), .int mask]) (rest := []) ⟨hx, hb, hml, hown, hts⟩ (c_C_flip l dC dI ad cd s.heap.size w wr fl (nI 1) (-1) lw rot vb (nI 0) (nI 0) live row (-1) (nI 0) (nI 0) (nI 0) bts (nI 0) act (nI 0) (nI 0) j k mask (by first | omega | rfl | assumption | decide) (by first | omega | rfl | assumption | decide)) (cwV 3 hts (g_V t_690 t_691 t_692 t_3 t_693) rfl rfl rfl (by decide +kernel) ⟨by decide, by decide⟩) (xP_v hP hK hD 2 rfl rfl) rfl rfl hl.1 rfl (lv_room (Nat.le_of_ble_eq_true rfl)) d_R_poke_15 ⟨Nat.le_refl _, Nat.le_refl _⟩) hS (fun q _ h => xA_up hS.1 q h) (fun q h => xA_up hS.1 q h) (fun u15 t H1 locs1 ht hvm q15 hB hz1 hk1 hS => ?_)
  obtain ⟨hP1, hK1, hD1⟩ := hB
  rw [ht] at hP1
  have hD : va_D (xA 15 ad s.heap.size) (xw ad cd (upd w (j * 16 + k) (w (j * 16 + k) ^^^ mask)) wr fl (nI 1) (-1) lw rot vb (nI 0) (nI 0) live row (-1) (nI 0) (nI 0) (nI 0) bts (nI 0) act (nI 0) (nI 0)) := hD1.weaken (fun _ q _ h => xA_up hSz _ h)
  have hP : va_P (dC, dI) vwCl (xw ad cd (upd w (j * 16 + k) (w (j * 16 + k) ^^^ mask)) wr fl (nI 1) (-1) lw rot vb (nI 0) (nI 0) live row (-1) (nI 0) (nI 0) (nI 0) bts (nI 0) act (nI 0) (nI 0)) H1 := hP1
  generalize H1 = H at hP hS ⊢
  generalize locs1 = locs at hS ⊢
  exact W.vret hx hb hr (fun t ht hW => ⟨⟨(), rfl, by first | rfl | trivial | omega, ⟨by rw [ht]; exact hP, va_K.moved hW.alike hK, hD⟩⟩, hS.F ht⟩) hS.2.2 d_R_poke_18
set_option maxHeartbeats 4000000 in
set_option maxRecDepth 100000 in
theorem c_R_word_ok (l : Launch) (dC : Nat → ClassId) (dI : Nat → Nat → Nat) (ad cd : Nat → Nat) (w wr fl : Nat → Int32) (pw sc : Int32) (lw rot vb : Nat → Int32) (rec tk : Int32) (live row : Nat → Int32) (cur ser dur wo : Int32) (bts : Nat → Int32) (us : Int32) (act : Nat → Int32) (rd rs : Int32) (j k : Nat) (hj : j < 32) (hk : k < 16) : Met l y_R_word w_R_word ({ frames := 2, cells := 0, slots := 0, locals := 43 }) (xR (dC, dI) vwCl (xt cd) (xw ad cd w wr fl (nI 1) (-1) lw rot vb (nI 0) (nI 0) live row (-1) (nI 0) (nI 0) (nI 0) bts (nI 0) act (nI 0) (nI 0)) [.ref (ad 0), .int (nI j), .int (nI k)]) (vp_Si (fun r => r = w (16 * j + k))) 0 0 (fun _ => False) := by
  refine Met.ofW (cc := b_R_word) (maxL := 3) (ret := (some (.int))) (by decide) rfl ?_
  intro P e s m args below meth c0 s₁ B hml hv
  obtain ⟨rfl, hP, hK⟩ := hv
  have hx := B.exec
  have hb := B.bytes
  have hr := B.returns
  have hts := atoms_spec (ws := w_R_word) B.pre
  have hown : s.vm.findClass R_R = some m.cls := findClass_of_methodNamed B.named
  have hlocks := B.notSynchronized
  have hl := lv_entry ([.ref (ad 0), .int (nI j), .int (nI k)]) (n := 3) (Nat.le_of_ble_eq_true rfl)
  rw [lg_entry_eq]
  generalize (lg_sl ([.ref (ad 0), .int (nI j), .int (nI k)]) ++ List.replicate (3 - (lg_sl ([.ref (ad 0), .int (nI j), .int (nI k)])).length) Slot.unset).toArray = ls at hl ⊢
  have hl : lv_has ls 3 [(0, .ref (ad 0)), (1, .int (nI j)), (2, .int (nI k))] := hl
  refine lv_iload_n hx hb d_R_word_0 rfl (lv_at hl 1 rfl) ?_
  refine lv_iload_n hx hb d_R_word_1 rfl (lv_at hl 2 rfl) ?_
  refine vp_callSi (va_runS (As := [.int (nI j), .int (nI k)]) (rest := []) ⟨hx, hb, hml, hown, hts⟩ (c_R_isPlace l dC dI (nI j) (nI k) ) (cwS 2 hts (g_S t_687 t_688 t_1 t_689) rfl rfl rfl (by decide +kernel) ⟨by decide, by decide⟩) (xR_s (va_P.sub hP [] rfl) (hK.sub [] rfl)) rfl rfl hl.1 rfl (lv_room (Nat.le_of_ble_eq_true rfl)) d_R_word_2 ⟨Nat.le_refl _, Nat.le_refl _⟩).run (fun r2 q2 => ?_)
  obtain ⟨rfl, -⟩ := q2.resolve_right (fun z => z.2 (⟨⟨(nI_leI (by decide) (by omega)).mpr (Nat.zero_le _), (nI_leI (by omega) (by decide)).mpr (by omega)⟩, ⟨(nI_leI (by decide) (by omega)).mpr (Nat.zero_le _), (nI_leI (by omega) (by decide)).mpr (by omega)⟩⟩))
  refine va_csv (va_runS (As := [.int (nI 1)]) (rest := []) ⟨hx, hb, hml, hown, hts⟩ (c_R_requireIndex_1 l dC dI  ) (cwS 1 hts (g_S t_491 t_492 t_1 t_493) rfl rfl rfl (by decide +kernel) ⟨by decide, by decide⟩) (xR_s (va_P.sub hP [] rfl) (hK.sub [] rfl)) rfl rfl hl.1 rfl (lv_room (Nat.le_of_ble_eq_true rfl)) d_R_word_5 ⟨Nat.le_refl _, Nat.le_refl _⟩).run (fun q5 => ?_)
  refine lv_aload_n hx hb d_R_word_8 rfl (lv_at hl 0 rfl) ?_
  refine va_get (D := (dC, dI)) (ci := 4) (v := .ref (ad 2)) (C := R_R) (T := F_R) (N := 7) hx hb hts (fun w h => List.mem_cons_of_mem _ (in_R w h)) hown hK hP 0 rfl rfl 1 (by decide) (hts (.fieldLink R_R 20 R_R "chip" "LWeighRecorder$Chip;") (List.mem_cons_of_mem _ t_115)) (fun _ h9 => h9) rfl d_R_word_9 ?_
  refine lv_iload_n hx hb d_R_word_12 rfl (lv_at hl 1 rfl) ?_
  refine lv_iload_n hx hb d_R_word_13 rfl (lv_at hl 2 rfl) ?_
  refine vp_callSi (va_runV (C := R_C) (As := [.int (nI j), .int (nI k)]) (rest := []) ⟨hx, hb, hml, hown, hts⟩ (c_C_read l dC dI ad cd w wr fl (nI 1) (-1) lw rot vb (nI 0) (nI 0) live row (-1) (nI 0) (nI 0) (nI 0) bts (nI 0) act (nI 0) (nI 0) j k (by first | omega | rfl | assumption | decide) (by first | omega | rfl | assumption | decide)) (cwV 2 hts (g_V t_701 t_165 t_166 t_3 t_167) rfl rfl rfl (by decide +kernel) ⟨by decide, by decide⟩) (xR_v hP hK 2 rfl rfl) rfl rfl hl.1 rfl (lv_room (Nat.le_of_ble_eq_true rfl)) d_R_word_14 ⟨Nat.le_refl _, Nat.le_refl _⟩).run (fun r14 q14 => ?_)
  subst q14
  exact W.iret (v := w (16 * j + k)) hx hb hr (fun t ht hW => ⟨w (16 * j + k), rfl, by first | rfl | trivial | omega, ht⟩) (fun q hq => by cases hq) d_R_word_17
set_option maxHeartbeats 4000000 in
set_option maxRecDepth 100000 in
theorem c_R_state_f (l : Launch) (dC : Nat → ClassId) (dI : Nat → Nat → Nat) (ad cd : Nat → Nat) (w wr fl : Nat → Int32) (pw sc : Int32) (lw rot vb : Nat → Int32) (rec tk : Int32) (live row : Nat → Int32) (cur ser dur wo : Int32) (bts : Nat → Int32) (us : Int32) (act : Nat → Int32) (rd rs : Int32) (what : Int32) (hw : ∀ i, i < 512 → w i = -1) (hlv : ∀ i, i < 16 → live i = -1) (hfl : ∀ i, i < 8 → fl i = 0) : Met l y_R_state w_R_state ({ frames := 3, cells := 0, slots := 0, locals := 68 }) (xR (dC, dI) vwCl (xt cd) (xw ad cd w wr fl (nI 1) (-1) lw rot vb (nI 0) (nI 0) live row (-1) (nI 0) (nI 0) (nI 0) bts (nI 0) act (nI 0) (nI 0)) [.ref (ad 0), .int what]) (vp_Si (fun r => r = stv what)) 0 0 (fun _ => False) := by
  refine Met.ofW (cc := b_R_state) (maxL := 3) (ret := (some (.int))) (by decide) rfl ?_
  intro P e s m args below meth c0 s₁ B hml hv
  obtain ⟨rfl, hP, hK⟩ := hv
  have hx := B.exec
  have hb := B.bytes
  have hr := B.returns
  have hts := atoms_spec (ws := w_R_state) B.pre
  have hown : s.vm.findClass R_R = some m.cls := findClass_of_methodNamed B.named
  have hlocks := B.notSynchronized
  have hl := lv_entry ([.ref (ad 0), .int what]) (n := 3) (Nat.le_of_ble_eq_true rfl)
  rw [lg_entry_eq]
  generalize (lg_sl ([.ref (ad 0), .int what]) ++ List.replicate (3 - (lg_sl ([.ref (ad 0), .int what])).length) Slot.unset).toArray = ls at hl ⊢
  have hl : lv_has ls 3 [(0, .ref (ad 0)), (1, .int what)] := hl
  refine lv_aload_n hx hb d_R_state_0 rfl (lv_at hl 0 rfl) ?_
  refine va_get (D := (dC, dI)) (ci := 4) (v := .ref (ad 2)) (C := R_R) (T := F_R) (N := 7) hx hb hts (fun w h => List.mem_cons_of_mem _ (in_R w h)) hown hK hP 0 rfl rfl 1 (by decide) (hts (.fieldLink R_R 20 R_R "chip" "LWeighRecorder$Chip;") (List.mem_cons_of_mem _ t_115)) (fun _ h9 => h9) rfl d_R_state_1 ?_
  refine vp_callSi (va_runV (C := R_C) (As := []) (rest := []) ⟨hx, hb, hml, hown, hts⟩ (c_C_isPowered l dC dI ad cd w wr fl (nI 1) (-1) lw rot vb (nI 0) (nI 0) live row (-1) (nI 0) (nI 0) (nI 0) bts (nI 0) act (nI 0) (nI 0)  (by first | omega | rfl | assumption | decide)) (cwV 0 hts (g_V t_225 t_226 t_227 t_3 t_228) rfl rfl rfl (by decide +kernel) ⟨by decide, by decide⟩) (xR_v hP hK 2 rfl rfl) rfl rfl hl.1 rfl (lv_room (Nat.le_of_ble_eq_true rfl)) d_R_state_4 ⟨Nat.le_refl _, Nat.le_refl _⟩).run (fun r4 q4 => ?_)
  subst q4
  refine lv_istore_n hx hb d_R_state_7 rfl hl (by decide) rfl (fun ls hl => ?_)
  have hl : lv_has ls 3 [(2, .int (nI 1)), (0, .ref (ad 0)), (1, .int what)] := hl
  refine lv_iload_n hx hb d_R_state_8 rfl (lv_at hl 2 rfl) ?_
  refine lv_topi (fun sx esx => ?_)
  rcases sw_in sx 8 with hsw | ⟨j, hj, ej⟩
  ·
    refine lv_tableOut (tgt := 187) hx hb d_R_state_9 hsw (by decide) ?_
    refine lv_iconst (v := (-1)) hx hb d_R_state_187 (by decide) ?_
    exact W.iret (v := (-1)) hx hb hr (fun t ht hW => ⟨(-1), rfl, by rw [← esx]; exact (stv_out hsw).symm, ht⟩) (fun q hq => by cases hq) d_R_state_188
  ·
    rcases (show j = 0 ∨ j = 1 ∨ j = 2 ∨ j = 3 ∨ j = 4 ∨ j = 5 ∨ j = 6 ∨ j = 7 ∨ j = 8 by omega) with rfl | rfl | rfl | rfl | rfl | rfl | rfl | rfl | rfl
    ·
      subst ej
      refine lv_tableIn (off := 51) (tgt := 60) hx hb d_R_state_9 (by decide) (by decide) rfl (by decide) ?_
      refine lv_iload_n hx hb d_R_state_60 rfl (lv_at hl 0 rfl) ?_
      refine lv_if_eq (tgt := 74) hx hb d_R_state_61 (by decide) (fun c61 => ?_) (fun c61 => ?_)
      ·
        exact absurd c61 (by decide)
      ·
        refine lv_aload_n hx hb d_R_state_64 rfl (lv_at hl 1 rfl) ?_
        refine va_get (D := (dC, dI)) (ci := 4) (v := .ref (ad 3)) (C := R_R) (T := F_R) (N := 7) hx hb hts (fun w h => List.mem_cons_of_mem _ (in_R w h)) hown hK hP 0 rfl rfl 2 (by decide) (hts (.fieldLink R_R 26 R_R "log" "LWeighRecorder$Log;") (List.mem_cons_of_mem _ t_116)) (fun _ h9 => h9) rfl d_R_state_65 ?_
        refine vp_callSi (va_runV (C := R_G) (As := []) (rest := []) ⟨hx, hb, hml, hown, hts⟩ (c_G_recordCount l dC dI ad cd w wr fl (nI 1) (-1) lw rot vb (nI 0) (nI 0) live row (-1) (nI 0) (nI 0) (nI 0) bts (nI 0) act (nI 0) (nI 0)  ) (cwV 0 hts (g_V t_229 t_210 t_211 t_4 t_212) rfl rfl rfl (by decide +kernel) ⟨by decide, by decide⟩) (xR_v hP hK 3 rfl rfl) rfl rfl hl.1 rfl (lv_room (Nat.le_of_ble_eq_true rfl)) d_R_state_68 ⟨Nat.le_refl _, Nat.le_refl _⟩).run (fun r68 q68 => ?_)
        subst q68
        refine lv_goto (tgt := 75) hx hb d_R_state_71 (by decide) ?_
        exact W.iret (v := nI 0) hx hb hr (fun t ht hW => ⟨nI 0, rfl, by rw [← esx]; decide, ht⟩) (fun q hq => by cases hq) d_R_state_75
    ·
      subst ej
      refine lv_tableIn (off := 67) (tgt := 76) hx hb d_R_state_9 (by decide) (by decide) rfl (by decide) ?_
      refine lv_iload_n hx hb d_R_state_76 rfl (lv_at hl 0 rfl) ?_
      refine lv_if_eq (tgt := 90) hx hb d_R_state_77 (by decide) (fun c77 => ?_) (fun c77 => ?_)
      ·
        exact absurd c77 (by decide)
      ·
        refine lv_aload_n hx hb d_R_state_80 rfl (lv_at hl 1 rfl) ?_
        refine va_get (D := (dC, dI)) (ci := 4) (v := .ref (ad 1)) (C := R_R) (T := F_R) (N := 7) hx hb hts (fun w h => List.mem_cons_of_mem _ (in_R w h)) hown hK hP 0 rfl rfl 0 (by decide) (hts (.fieldLink R_R 12 R_R "store" "LWeighRecorder$Store;") (List.mem_cons_of_mem _ t_114)) (fun _ h9 => h9) rfl d_R_state_81 ?_
        refine vp_callSi (va_runV (C := R_S) (As := []) (rest := []) ⟨hx, hb, hml, hown, hts⟩ (c_S_durableCount l dC dI ad cd w wr fl (nI 1) (-1) lw rot vb (nI 0) (nI 0) live row (-1) (nI 0) (nI 0) (nI 0) bts (nI 0) act (nI 0) (nI 0)  ) (cwV 0 hts (g_V t_230 t_231 t_232 t_2 t_233) rfl rfl rfl (by decide +kernel) ⟨by decide, by decide⟩) (xR_v hP hK 1 rfl rfl) rfl rfl hl.1 rfl (lv_room (Nat.le_of_ble_eq_true rfl)) d_R_state_84 ⟨Nat.le_refl _, Nat.le_refl _⟩).run (fun r84 q84 => ?_)
        subst q84
        refine lv_goto (tgt := 91) hx hb d_R_state_87 (by decide) ?_
        exact W.iret (v := nI 0) hx hb hr (fun t ht hW => ⟨nI 0, rfl, by rw [← esx]; decide, ht⟩) (fun q hq => by cases hq) d_R_state_91
    ·
      subst ej
      refine lv_tableIn (off := 83) (tgt := 92) hx hb d_R_state_9 (by decide) (by decide) rfl (by decide) ?_
      refine lv_iload_n hx hb d_R_state_92 rfl (lv_at hl 0 rfl) ?_
      refine lv_if_eq (tgt := 106) hx hb d_R_state_93 (by decide) (fun c93 => ?_) (fun c93 => ?_)
      ·
        exact absurd c93 (by decide)
      ·
        refine lv_aload_n hx hb d_R_state_96 rfl (lv_at hl 1 rfl) ?_
        refine va_get (D := (dC, dI)) (ci := 4) (v := .ref (ad 3)) (C := R_R) (T := F_R) (N := 7) hx hb hts (fun w h => List.mem_cons_of_mem _ (in_R w h)) hown hK hP 0 rfl rfl 2 (by decide) (hts (.fieldLink R_R 26 R_R "log" "LWeighRecorder$Log;") (List.mem_cons_of_mem _ t_116)) (fun _ h9 => h9) rfl d_R_state_97 ?_
        refine vp_callSi (va_runV (C := R_G) (As := []) (rest := []) ⟨hx, hb, hml, hown, hts⟩ (c_G_ticketCount l dC dI ad cd w wr fl (nI 1) (-1) lw rot vb (nI 0) (nI 0) live row (-1) (nI 0) (nI 0) (nI 0) bts (nI 0) act (nI 0) (nI 0)  ) (cwV 0 hts (g_V t_217 t_218 t_219 t_4 t_220) rfl rfl rfl (by decide +kernel) ⟨by decide, by decide⟩) (xR_v hP hK 3 rfl rfl) rfl rfl hl.1 rfl (lv_room (Nat.le_of_ble_eq_true rfl)) d_R_state_100 ⟨Nat.le_refl _, Nat.le_refl _⟩).run (fun r100 q100 => ?_)
        subst q100
        refine lv_goto (tgt := 107) hx hb d_R_state_103 (by decide) ?_
        exact W.iret (v := nI 0) hx hb hr (fun t ht hW => ⟨nI 0, rfl, by rw [← esx]; decide, ht⟩) (fun q hq => by cases hq) d_R_state_107
    ·
      subst ej
      refine lv_tableIn (off := 99) (tgt := 108) hx hb d_R_state_9 (by decide) (by decide) rfl (by decide) ?_
      refine lv_iload_n hx hb d_R_state_108 rfl (lv_at hl 0 rfl) ?_
      refine lv_if_eq (tgt := 122) hx hb d_R_state_109 (by decide) (fun c109 => ?_) (fun c109 => ?_)
      ·
        exact absurd c109 (by decide)
      ·
        refine lv_aload_n hx hb d_R_state_112 rfl (lv_at hl 1 rfl) ?_
        refine va_get (D := (dC, dI)) (ci := 4) (v := .ref (ad 1)) (C := R_R) (T := F_R) (N := 7) hx hb hts (fun w h => List.mem_cons_of_mem _ (in_R w h)) hown hK hP 0 rfl rfl 0 (by decide) (hts (.fieldLink R_R 12 R_R "store" "LWeighRecorder$Store;") (List.mem_cons_of_mem _ t_114)) (fun _ h9 => h9) rfl d_R_state_113 ?_
        refine vp_callSi (va_runV (C := R_S) (As := []) (rest := []) ⟨hx, hb, hml, hown, hts⟩ (c_S_livePageCount_f l dC dI ad cd w wr fl (nI 1) (-1) lw rot vb (nI 0) (nI 0) live row (-1) (nI 0) (nI 0) (nI 0) bts (nI 0) act (nI 0) (nI 0)  (hlv)) (cwV 0 hts (g_V t_234 t_235 t_236 t_2 t_237) rfl rfl rfl (by decide +kernel) ⟨by decide, by decide⟩) (xR_v hP hK 1 rfl rfl) rfl rfl hl.1 rfl (lv_room (Nat.le_of_ble_eq_true rfl)) d_R_state_116 ⟨Nat.le_refl _, Nat.le_refl _⟩).run (fun r116 q116 => ?_)
        subst q116
        refine lv_goto (tgt := 123) hx hb d_R_state_119 (by decide) ?_
        exact W.iret (v := nI 0) hx hb hr (fun t ht hW => ⟨nI 0, rfl, by rw [← esx]; decide, ht⟩) (fun q hq => by cases hq) d_R_state_123
    ·
      subst ej
      refine lv_tableIn (off := 115) (tgt := 124) hx hb d_R_state_9 (by decide) (by decide) rfl (by decide) ?_
      refine lv_iload_n hx hb d_R_state_124 rfl (lv_at hl 0 rfl) ?_
      refine lv_if_eq (tgt := 135) hx hb d_R_state_125 (by decide) (fun c125 => ?_) (fun c125 => ?_)
      ·
        exact absurd c125 (by decide)
      ·
        refine lv_aload_n hx hb d_R_state_128 rfl (lv_at hl 1 rfl) ?_
        refine va_get (D := (dC, dI)) (ci := 4) (v := .int (nI 0)) (C := R_R) (T := F_R) (N := 7) hx hb hts (fun w h => List.mem_cons_of_mem _ (in_R w h)) hown hK hP 0 rfl rfl 5 (by decide) (hts (.fieldLink R_R 41 R_R "readings" "I") (List.mem_cons_of_mem _ t_119)) (fun _ h9 => h9) rfl d_R_state_129 ?_
        refine lv_goto (tgt := 136) hx hb d_R_state_132 (by decide) ?_
        exact W.iret (v := nI 0) hx hb hr (fun t ht hW => ⟨nI 0, rfl, by rw [← esx]; decide, ht⟩) (fun q hq => by cases hq) d_R_state_136
    ·
      subst ej
      refine lv_tableIn (off := 128) (tgt := 137) hx hb d_R_state_9 (by decide) (by decide) rfl (by decide) ?_
      refine lv_iload_n hx hb d_R_state_137 rfl (lv_at hl 0 rfl) ?_
      refine lv_if_eq (tgt := 151) hx hb d_R_state_138 (by decide) (fun c138 => ?_) (fun c138 => ?_)
      ·
        exact absurd c138 (by decide)
      ·
        refine lv_aload_n hx hb d_R_state_141 rfl (lv_at hl 1 rfl) ?_
        refine va_get (D := (dC, dI)) (ci := 4) (v := .ref (ad 1)) (C := R_R) (T := F_R) (N := 7) hx hb hts (fun w h => List.mem_cons_of_mem _ (in_R w h)) hown hK hP 0 rfl rfl 0 (by decide) (hts (.fieldLink R_R 12 R_R "store" "LWeighRecorder$Store;") (List.mem_cons_of_mem _ t_114)) (fun _ h9 => h9) rfl d_R_state_142 ?_
        refine vp_callSi (va_runV (C := R_S) (As := []) (rest := []) ⟨hx, hb, hml, hown, hts⟩ (c_S_latestSerial l dC dI ad cd w wr fl (nI 1) (-1) lw rot vb (nI 0) (nI 0) live row (-1) (nI 0) (nI 0) (nI 0) bts (nI 0) act (nI 0) (nI 0)  ) (cwV 0 hts (g_V t_242 t_243 t_244 t_2 t_245) rfl rfl rfl (by decide +kernel) ⟨by decide, by decide⟩) (xR_v hP hK 1 rfl rfl) rfl rfl hl.1 rfl (lv_room (Nat.le_of_ble_eq_true rfl)) d_R_state_145 ⟨Nat.le_refl _, Nat.le_refl _⟩).run (fun r145 q145 => ?_)
        subst q145
        refine lv_goto (tgt := 152) hx hb d_R_state_148 (by decide) ?_
        exact W.iret (v := nI 0) hx hb hr (fun t ht hW => ⟨nI 0, rfl, by rw [← esx]; decide, ht⟩) (fun q hq => by cases hq) d_R_state_152
    ·
      subst ej
      refine lv_tableIn (off := 144) (tgt := 153) hx hb d_R_state_9 (by decide) (by decide) rfl (by decide) ?_
      refine lv_iload_n hx hb d_R_state_153 rfl (lv_at hl 0 rfl) ?_
      refine lv_if_eq (tgt := 167) hx hb d_R_state_154 (by decide) (fun c154 => ?_) (fun c154 => ?_)
      ·
        exact absurd c154 (by decide)
      ·
        refine lv_aload_n hx hb d_R_state_157 rfl (lv_at hl 1 rfl) ?_
        refine va_get (D := (dC, dI)) (ci := 4) (v := .ref (ad 1)) (C := R_R) (T := F_R) (N := 7) hx hb hts (fun w h => List.mem_cons_of_mem _ (in_R w h)) hown hK hP 0 rfl rfl 0 (by decide) (hts (.fieldLink R_R 12 R_R "store" "LWeighRecorder$Store;") (List.mem_cons_of_mem _ t_114)) (fun _ h9 => h9) rfl d_R_state_158 ?_
        refine vp_callSi (va_runV (C := R_S) (As := []) (rest := []) ⟨hx, hb, hml, hown, hts⟩ (c_S_cursorBlock l dC dI ad cd w wr fl (nI 1) (-1) lw rot vb (nI 0) (nI 0) live row (-1) (nI 0) (nI 0) (nI 0) bts (nI 0) act (nI 0) (nI 0)  ) (cwV 0 hts (g_V t_246 t_247 t_248 t_2 t_249) rfl rfl rfl (by decide +kernel) ⟨by decide, by decide⟩) (xR_v hP hK 1 rfl rfl) rfl rfl hl.1 rfl (lv_room (Nat.le_of_ble_eq_true rfl)) d_R_state_161 ⟨Nat.le_refl _, Nat.le_refl _⟩).run (fun r161 q161 => ?_)
        subst q161
        refine lv_goto (tgt := 168) hx hb d_R_state_164 (by decide) ?_
        exact W.iret (v := (-1)) hx hb hr (fun t ht hW => ⟨(-1), rfl, by rw [← esx]; decide, ht⟩) (fun q hq => by cases hq) d_R_state_168
    ·
      subst ej
      refine lv_tableIn (off := 160) (tgt := 169) hx hb d_R_state_9 (by decide) (by decide) rfl (by decide) ?_
      refine lv_aload_n hx hb d_R_state_169 rfl (lv_at hl 1 rfl) ?_
      refine va_get (D := (dC, dI)) (ci := 4) (v := .ref (ad 2)) (C := R_R) (T := F_R) (N := 7) hx hb hts (fun w h => List.mem_cons_of_mem _ (in_R w h)) hown hK hP 0 rfl rfl 1 (by decide) (hts (.fieldLink R_R 20 R_R "chip" "LWeighRecorder$Chip;") (List.mem_cons_of_mem _ t_115)) (fun _ h9 => h9) rfl d_R_state_170 ?_
      refine vp_callSi (va_runV (C := R_C) (As := []) (rest := []) ⟨hx, hb, hml, hown, hts⟩ (c_C_usableFreePages_f l dC dI ad cd w wr fl (nI 1) (-1) lw rot vb (nI 0) (nI 0) live row (-1) (nI 0) (nI 0) (nI 0) bts (nI 0) act (nI 0) (nI 0)  (hw) (hfl)) (cwV 0 hts (g_V t_250 t_251 t_252 t_3 t_253) rfl rfl rfl (by decide +kernel) ⟨by decide, by decide⟩) (xR_v hP hK 2 rfl rfl) rfl rfl hl.1 rfl (lv_room (Nat.le_of_ble_eq_true rfl)) d_R_state_173 ⟨Nat.le_refl _, Nat.le_refl _⟩).run (fun r173 q173 => ?_)
      subst q173
      exact W.iret (v := nI 32) hx hb hr (fun t ht hW => ⟨nI 32, rfl, by rw [← esx]; decide, ht⟩) (fun q hq => by cases hq) d_R_state_176
    ·
      subst ej
      refine lv_tableIn (off := 168) (tgt := 177) hx hb d_R_state_9 (by decide) (by decide) rfl (by decide) ?_
      refine lv_iload_n hx hb d_R_state_177 rfl (lv_at hl 0 rfl) ?_
      refine lv_if_eq (tgt := 185) hx hb d_R_state_178 (by decide) (fun c178 => ?_) (fun c178 => ?_)
      ·
        exact absurd c178 (by decide)
      ·
        refine lv_iconst (v := nI 1) hx hb d_R_state_181 (by decide) ?_
        refine lv_goto (tgt := 186) hx hb d_R_state_182 (by decide) ?_
        exact W.iret (v := nI 1) hx hb hr (fun t ht hW => ⟨nI 1, rfl, by rw [← esx]; decide, ht⟩) (fun q hq => by cases hq) d_R_state_186
end
section
set_option maxHeartbeats 4000000 in
set_option maxRecDepth 100000 in
theorem th_R_axle (l : Launch) (hl9 : l.stackTraces = false) (dC : Nat → ClassId) (dI : Nat → Nat → Nat) (ad cd : Nat → Nat) (az : Nat) (w wr fl : Nat → Int32) (pw sc : Int32) (lw rot vb : Nat → Int32) (rec tk : Int32) (live row : Nat → Int32) (cur ser dur wo : Int32) (bts : Nat → Int32) (us : Int32) (act : Nat → Int32) (rd rs : Int32) (st : Int32) (hok : ¬ (nI 1 ≤ st ∧ st ≤ nI 1200)) : Thr l y_R_axle w_R_axle ({ frames := 7, cells := 1, slots := 6, locals := 120 }) (xT (dC, dI) vwCl (xt cd) (xw ad cd w wr fl (nI 1) (-1) lw rot vb (nI 0) (nI 0) live row (-1) (nI 0) (nI 0) (nI 0) bts (nI 0) act (nI 0) (nI 0)) az [.ref (ad 0), .int st]) E_A := by
  refine Thr.ofW (cc := b_R_axle) (maxL := 2) (ret := (some (.int))) (by decide) rfl ?_
  intro P e s m args below meth c0 s₁ B hml hnt hv
  obtain ⟨rfl, hP, hK, hz, hn⟩ := hv
  have hx := B.exec
  have hb := B.bytes
  have hr := B.returns
  have hts := atoms_spec (ws := w_R_axle) B.pre
  have hown : s.vm.findClass R_R = some m.cls := findClass_of_methodNamed B.named
  have hlocks := B.notSynchronized
  have hl := lv_entry ([.ref (ad 0), .int st]) (n := 2) (Nat.le_of_ble_eq_true rfl)
  rw [lg_entry_eq]
  generalize (lg_sl ([.ref (ad 0), .int st]) ++ List.replicate (2 - (lg_sl ([.ref (ad 0), .int st])).length) Slot.unset).toArray = ls at hl ⊢
  have hl : lv_has ls 2 [(0, .ref (ad 0)), (1, .int st)] := hl
  refine lv_iload_n hx hb d_R_axle_0 rfl (lv_at hl 1 rfl) ?_
  refine lv_iconst (v := nI 1) hx hb d_R_axle_1 (by decide) ?_
  refine lv_sipush (v := nI 1200) hx hb d_R_axle_2 (by decide) ?_
  refine vp_callSi (va_runS (As := [.int st, .int (nI 1), .int (nI 1200)]) (rest := []) ⟨hx, hb, hml, hown, hts⟩ (c_R_isWithin l dC dI st (nI 1) (nI 1200) ) (cwS 3 hts (g_S t_271 t_207 t_1 t_208) rfl rfl rfl (by decide +kernel) ⟨by decide, by decide⟩) (xR_s (va_P.sub hP [] rfl) (hK.sub [] rfl)) rfl rfl hl.1 rfl (lv_room (Nat.le_of_ble_eq_true rfl)) d_R_axle_5 ⟨Nat.zero_le _, Nat.zero_le _⟩).run (fun r5 q5 => ?_)
  obtain ⟨rfl, -⟩ := q5.resolve_left (fun z => (hok) z.2)
  exact th_out (rest := []) hnt hlocks (fun T hT X => th_runS (As := [.int (nI 0)]) (rest := []) ⟨hx, hb, hml, hown, hts⟩ (th_R_requireArgument l hl9 az) (cwS 1 hts (g_S t_272 t_273 t_1 t_274) rfl rfl rfl (by decide +kernel) ⟨by decide, by decide⟩) (tP_s hz hn) rfl rfl hl.1 rfl (lv_room (Nat.le_of_ble_eq_true rfl)) d_R_axle_8 ⟨by decide, by decide⟩ hT X)
set_option maxHeartbeats 4000000 in
set_option maxRecDepth 100000 in
theorem th_R_close (l : Launch) (hl9 : l.stackTraces = false) (dC : Nat → ClassId) (dI : Nat → Nat → Nat) (ad cd : Nat → Nat) (az : Nat) (w wr fl : Nat → Int32) (pw sc : Int32) (lw rot vb : Nat → Int32) (rec tk : Int32) (live row : Nat → Int32) (cur ser dur wo : Int32) (bts : Nat → Int32) (us : Int32) (act : Nat → Int32) (rd rs : Int32) (plate tare product clock : Int32) (hbad : ¬ ((nI 0 ≤ tare ∧ tare ≤ nI 216000) ∧ (nI 0 ≤ product ∧ product ≤ nI 39) ∧ (nI 0 ≤ clock ∧ clock ≤ nI 67108863))) : Thr l y_R_close w_R_close ({ frames := 7, cells := 1, slots := 6, locals := 120 }) (xT (dC, dI) vwCl (xt cd) (xw ad cd w wr fl (nI 1) (-1) lw rot vb (nI 0) (nI 0) live row (-1) (nI 0) (nI 0) (nI 0) bts (nI 0) act (nI 0) (nI 0)) az [.ref (ad 0), .int plate, .int tare, .int product, .int clock]) E_A := by
  refine Thr.ofW (cc := b_R_close) (maxL := 6) (ret := (some (.int))) (by decide) rfl ?_
  intro P e s m args below meth c0 s₁ B hml hnt hv
  obtain ⟨rfl, hP, hK, hz, hn⟩ := hv
  have hx := B.exec
  have hb := B.bytes
  have hr := B.returns
  have hts := atoms_spec (ws := w_R_close) B.pre
  have hown : s.vm.findClass R_R = some m.cls := findClass_of_methodNamed B.named
  have hlocks := B.notSynchronized
  have hl := lv_entry ([.ref (ad 0), .int plate, .int tare, .int product, .int clock]) (n := 6) (Nat.le_of_ble_eq_true rfl)
  rw [lg_entry_eq]
  generalize (lg_sl ([.ref (ad 0), .int plate, .int tare, .int product, .int clock]) ++ List.replicate (6 - (lg_sl ([.ref (ad 0), .int plate, .int tare, .int product, .int clock])).length) Slot.unset).toArray = ls at hl ⊢
  have hl : lv_has ls 6 [(0, .ref (ad 0)), (1, .int plate), (2, .int tare), (3, .int product), (4, .int clock)] := hl
  refine lv_iload_n hx hb d_R_close_0 rfl (lv_at hl 2 rfl) ?_
  refine lv_iconst (v := nI 0) hx hb d_R_close_1 (by decide) ?_
  refine lv_ldc (v := nI 216000) hx hb hown (hts (.constant R_R 65 216000) (List.mem_cons_of_mem _ t_363)) d_R_close_2 ?_
  refine vp_callSi (va_runS (As := [.int tare, .int (nI 0), .int (nI 216000)]) (rest := []) ⟨hx, hb, hml, hown, hts⟩ (c_R_isWithin l dC dI tare (nI 0) (nI 216000) ) (cwS 3 hts (g_S t_271 t_207 t_1 t_208) rfl rfl rfl (by decide +kernel) ⟨by decide, by decide⟩) (xR_s (va_P.sub hP [] rfl) (hK.sub [] rfl)) rfl rfl hl.1 rfl (lv_room (Nat.le_of_ble_eq_true rfl)) d_R_close_4 ⟨Nat.zero_le _, Nat.zero_le _⟩).run (fun r4 q4 => ?_)
  rcases q4 with ⟨rfl, h4⟩ | ⟨rfl, h4⟩
  ·
    refine va_csv (va_runS (As := [.int (nI 1)]) (rest := []) ⟨hx, hb, hml, hown, hts⟩ (c_R_requireArgument_1 l dC dI  ) (cwS 1 hts (g_S t_272 t_273 t_1 t_274) rfl rfl rfl (by decide +kernel) ⟨by decide, by decide⟩) (xR_s (va_P.sub hP [] rfl) (hK.sub [] rfl)) rfl rfl hl.1 rfl (lv_room (Nat.le_of_ble_eq_true rfl)) d_R_close_7 ⟨Nat.zero_le _, Nat.zero_le _⟩).run (fun q7 => ?_)
    refine lv_iload_n hx hb d_R_close_10 rfl (lv_at hl 3 rfl) ?_
    refine vp_callSi (va_runS (As := [.int product]) (rest := []) ⟨hx, hb, hml, hown, hts⟩ (c_R_isProduct l dC dI product ) (cwS 1 hts (g_S t_364 t_365 t_1 t_366) rfl rfl rfl (by decide +kernel) ⟨by decide, by decide⟩) (xR_s (va_P.sub hP [] rfl) (hK.sub [] rfl)) rfl rfl hl.1 rfl (lv_room (Nat.le_of_ble_eq_true rfl)) d_R_close_11 ⟨Nat.zero_le _, Nat.zero_le _⟩).run (fun r11 q11 => ?_)
    rcases q11 with ⟨rfl, h11⟩ | ⟨rfl, h11⟩
    ·
      refine va_csv (va_runS (As := [.int (nI 1)]) (rest := []) ⟨hx, hb, hml, hown, hts⟩ (c_R_requireArgument_1 l dC dI  ) (cwS 1 hts (g_S t_272 t_273 t_1 t_274) rfl rfl rfl (by decide +kernel) ⟨by decide, by decide⟩) (xR_s (va_P.sub hP [] rfl) (hK.sub [] rfl)) rfl rfl hl.1 rfl (lv_room (Nat.le_of_ble_eq_true rfl)) d_R_close_14 ⟨Nat.zero_le _, Nat.zero_le _⟩).run (fun q14 => ?_)
      refine lv_iload hx hb d_R_close_17 (lv_at hl 4 rfl) ?_
      refine lv_iconst (v := nI 0) hx hb d_R_close_19 (by decide) ?_
      refine lv_ldc (v := nI 67108863) hx hb hown (hts (.constant R_R 70 67108863) (List.mem_cons_of_mem _ t_367)) d_R_close_20 ?_
      refine vp_callSi (va_runS (As := [.int clock, .int (nI 0), .int (nI 67108863)]) (rest := []) ⟨hx, hb, hml, hown, hts⟩ (c_R_isWithin l dC dI clock (nI 0) (nI 67108863) ) (cwS 3 hts (g_S t_271 t_207 t_1 t_208) rfl rfl rfl (by decide +kernel) ⟨by decide, by decide⟩) (xR_s (va_P.sub hP [] rfl) (hK.sub [] rfl)) rfl rfl hl.1 rfl (lv_room (Nat.le_of_ble_eq_true rfl)) d_R_close_22 ⟨Nat.zero_le _, Nat.zero_le _⟩).run (fun r22 q22 => ?_)
      rcases q22 with ⟨rfl, h22⟩ | ⟨rfl, h22⟩
      ·
        refine va_csv (va_runS (As := [.int (nI 1)]) (rest := []) ⟨hx, hb, hml, hown, hts⟩ (c_R_requireArgument_1 l dC dI  ) (cwS 1 hts (g_S t_272 t_273 t_1 t_274) rfl rfl rfl (by decide +kernel) ⟨by decide, by decide⟩) (xR_s (va_P.sub hP [] rfl) (hK.sub [] rfl)) rfl rfl hl.1 rfl (lv_room (Nat.le_of_ble_eq_true rfl)) d_R_close_25 ⟨Nat.zero_le _, Nat.zero_le _⟩).run (fun q25 => ?_)
        exact absurd ⟨h4, h11, h22⟩ hbad
      ·
        exact th_out (rest := []) hnt hlocks (fun T hT X => th_runS (As := [.int (nI 0)]) (rest := []) ⟨hx, hb, hml, hown, hts⟩ (th_R_requireArgument l hl9 az) (cwS 1 hts (g_S t_272 t_273 t_1 t_274) rfl rfl rfl (by decide +kernel) ⟨by decide, by decide⟩) (tP_s hz hn) rfl rfl hl.1 rfl (lv_room (Nat.le_of_ble_eq_true rfl)) d_R_close_25 ⟨by decide, by decide⟩ hT X)
    ·
      exact th_out (rest := []) hnt hlocks (fun T hT X => th_runS (As := [.int (nI 0)]) (rest := []) ⟨hx, hb, hml, hown, hts⟩ (th_R_requireArgument l hl9 az) (cwS 1 hts (g_S t_272 t_273 t_1 t_274) rfl rfl rfl (by decide +kernel) ⟨by decide, by decide⟩) (tP_s hz hn) rfl rfl hl.1 rfl (lv_room (Nat.le_of_ble_eq_true rfl)) d_R_close_14 ⟨by decide, by decide⟩ hT X)
  ·
    exact th_out (rest := []) hnt hlocks (fun T hT X => th_runS (As := [.int (nI 0)]) (rest := []) ⟨hx, hb, hml, hown, hts⟩ (th_R_requireArgument l hl9 az) (cwS 1 hts (g_S t_272 t_273 t_1 t_274) rfl rfl rfl (by decide +kernel) ⟨by decide, by decide⟩) (tP_s hz hn) rfl rfl hl.1 rfl (lv_room (Nat.le_of_ble_eq_true rfl)) d_R_close_7 ⟨by decide, by decide⟩ hT X)
set_option maxHeartbeats 4000000 in
set_option maxRecDepth 100000 in
theorem th_R_annul (l : Launch) (hl9 : l.stackTraces = false) (dC : Nat → ClassId) (dI : Nat → Nat → Nat) (ad cd : Nat → Nat) (az : Nat) (w wr fl : Nat → Int32) (pw sc : Int32) (lw rot vb : Nat → Int32) (rec tk : Int32) (live row : Nat → Int32) (cur ser dur wo : Int32) (bts : Nat → Int32) (us : Int32) (act : Nat → Int32) (rd rs : Int32) (tno rea : Int32) (hok : ¬ (nI 0 ≤ rea ∧ rea ≤ nI 3)) : Thr l y_R_annul w_R_annul ({ frames := 7, cells := 1, slots := 6, locals := 120 }) (xT (dC, dI) vwCl (xt cd) (xw ad cd w wr fl (nI 1) (-1) lw rot vb (nI 0) (nI 0) live row (-1) (nI 0) (nI 0) (nI 0) bts (nI 0) act (nI 0) (nI 0)) az [.ref (ad 0), .int tno, .int rea]) E_A := by
  refine Thr.ofW (cc := b_R_annul) (maxL := 3) (ret := (some (.int))) (by decide) rfl ?_
  intro P e s m args below meth c0 s₁ B hml hnt hv
  obtain ⟨rfl, hP, hK, hz, hn⟩ := hv
  have hx := B.exec
  have hb := B.bytes
  have hr := B.returns
  have hts := atoms_spec (ws := w_R_annul) B.pre
  have hown : s.vm.findClass R_R = some m.cls := findClass_of_methodNamed B.named
  have hlocks := B.notSynchronized
  have hl := lv_entry ([.ref (ad 0), .int tno, .int rea]) (n := 3) (Nat.le_of_ble_eq_true rfl)
  rw [lg_entry_eq]
  generalize (lg_sl ([.ref (ad 0), .int tno, .int rea]) ++ List.replicate (3 - (lg_sl ([.ref (ad 0), .int tno, .int rea])).length) Slot.unset).toArray = ls at hl ⊢
  have hl : lv_has ls 3 [(0, .ref (ad 0)), (1, .int tno), (2, .int rea)] := hl
  refine lv_iload_n hx hb d_R_annul_0 rfl (lv_at hl 2 rfl) ?_
  refine lv_iconst (v := nI 0) hx hb d_R_annul_1 (by decide) ?_
  refine lv_iconst (v := nI 3) hx hb d_R_annul_2 (by decide) ?_
  refine vp_callSi (va_runS (As := [.int rea, .int (nI 0), .int (nI 3)]) (rest := []) ⟨hx, hb, hml, hown, hts⟩ (c_R_isWithin l dC dI rea (nI 0) (nI 3) ) (cwS 3 hts (g_S t_271 t_207 t_1 t_208) rfl rfl rfl (by decide +kernel) ⟨by decide, by decide⟩) (xR_s (va_P.sub hP [] rfl) (hK.sub [] rfl)) rfl rfl hl.1 rfl (lv_room (Nat.le_of_ble_eq_true rfl)) d_R_annul_3 ⟨Nat.zero_le _, Nat.zero_le _⟩).run (fun r3 q3 => ?_)
  obtain ⟨rfl, -⟩ := q3.resolve_left (fun z => (hok) z.2)
  exact th_out (rest := []) hnt hlocks (fun T hT X => th_runS (As := [.int (nI 0)]) (rest := []) ⟨hx, hb, hml, hown, hts⟩ (th_R_requireArgument l hl9 az) (cwS 1 hts (g_S t_272 t_273 t_1 t_274) rfl rfl rfl (by decide +kernel) ⟨by decide, by decide⟩) (tP_s hz hn) rfl rfl hl.1 rfl (lv_room (Nat.le_of_ble_eq_true rfl)) d_R_annul_6 ⟨by decide, by decide⟩ hT X)
set_option maxHeartbeats 4000000 in
set_option maxRecDepth 100000 in
theorem th_R_setProduct (l : Launch) (hl9 : l.stackTraces = false) (dC : Nat → ClassId) (dI : Nat → Nat → Nat) (ad cd : Nat → Nat) (az : Nat) (w wr fl : Nat → Int32) (pw sc : Int32) (lw rot vb : Nat → Int32) (rec tk : Int32) (live row : Nat → Int32) (cur ser dur wo : Int32) (bts : Nat → Int32) (us : Int32) (act : Nat → Int32) (rd rs : Int32) (co b : Int32) (hok : ¬ (nI 0 ≤ co ∧ co ≤ nI 39)) : Thr l y_R_setProduct w_R_setProduct ({ frames := 7, cells := 1, slots := 6, locals := 120 }) (xT (dC, dI) vwCl (xt cd) (xw ad cd w wr fl (nI 1) (-1) lw rot vb (nI 0) (nI 0) live row (-1) (nI 0) (nI 0) (nI 0) bts (nI 0) act (nI 0) (nI 0)) az [.ref (ad 0), .int co, .int b]) E_A := by
  refine Thr.ofW (cc := b_R_setProduct) (maxL := 3) (ret := none) (by decide) rfl ?_
  intro P e s m args below meth c0 s₁ B hml hnt hv
  obtain ⟨rfl, hP, hK, hz, hn⟩ := hv
  have hx := B.exec
  have hb := B.bytes
  have hr := B.returns
  have hts := atoms_spec (ws := w_R_setProduct) B.pre
  have hown : s.vm.findClass R_R = some m.cls := findClass_of_methodNamed B.named
  have hlocks := B.notSynchronized
  have hl := lv_entry ([.ref (ad 0), .int co, .int b]) (n := 3) (Nat.le_of_ble_eq_true rfl)
  rw [lg_entry_eq]
  generalize (lg_sl ([.ref (ad 0), .int co, .int b]) ++ List.replicate (3 - (lg_sl ([.ref (ad 0), .int co, .int b])).length) Slot.unset).toArray = ls at hl ⊢
  have hl : lv_has ls 3 [(0, .ref (ad 0)), (1, .int co), (2, .int b)] := hl
  refine lv_iload_n hx hb d_R_setProduct_0 rfl (lv_at hl 1 rfl) ?_
  refine vp_callSi (va_runS (As := [.int co]) (rest := []) ⟨hx, hb, hml, hown, hts⟩ (c_R_isProduct l dC dI co ) (cwS 1 hts (g_S t_364 t_365 t_1 t_366) rfl rfl rfl (by decide +kernel) ⟨by decide, by decide⟩) (xR_s (va_P.sub hP [] rfl) (hK.sub [] rfl)) rfl rfl hl.1 rfl (lv_room (Nat.le_of_ble_eq_true rfl)) d_R_setProduct_1 ⟨Nat.zero_le _, Nat.zero_le _⟩).run (fun r1 q1 => ?_)
  obtain ⟨rfl, -⟩ := q1.resolve_left (fun z => (hok) z.2)
  exact th_out (rest := []) hnt hlocks (fun T hT X => th_runS (As := [.int (nI 0)]) (rest := []) ⟨hx, hb, hml, hown, hts⟩ (th_R_requireArgument l hl9 az) (cwS 1 hts (g_S t_272 t_273 t_1 t_274) rfl rfl rfl (by decide +kernel) ⟨by decide, by decide⟩) (tP_s hz hn) rfl rfl hl.1 rfl (lv_room (Nat.le_of_ble_eq_true rfl)) d_R_setProduct_4 ⟨by decide, by decide⟩ hT X)
set_option maxHeartbeats 4000000 in
set_option maxRecDepth 100000 in
theorem th_R_cutAfter (l : Launch) (hl9 : l.stackTraces = false) (dC : Nat → ClassId) (dI : Nat → Nat → Nat) (ad cd : Nat → Nat) (az : Nat) (w wr fl : Nat → Int32) (pw sc : Int32) (lw rot vb : Nat → Int32) (rec tk : Int32) (live row : Nat → Int32) (cur ser dur wo : Int32) (bts : Nat → Int32) (us : Int32) (act : Nat → Int32) (rd rs : Int32) (n : Int32) (hok : ¬ (nI 0 ≤ n ∧ n ≤ nI 300)) : Thr l y_R_cutAfter w_R_cutAfter ({ frames := 7, cells := 1, slots := 6, locals := 120 }) (xT (dC, dI) vwCl (xt cd) (xw ad cd w wr fl (nI 1) (-1) lw rot vb (nI 0) (nI 0) live row (-1) (nI 0) (nI 0) (nI 0) bts (nI 0) act (nI 0) (nI 0)) az [.ref (ad 0), .int n]) E_A := by
  refine Thr.ofW (cc := b_R_cutAfter) (maxL := 2) (ret := none) (by decide) rfl ?_
  intro P e s m args below meth c0 s₁ B hml hnt hv
  obtain ⟨rfl, hP, hK, hz, hn⟩ := hv
  have hx := B.exec
  have hb := B.bytes
  have hr := B.returns
  have hts := atoms_spec (ws := w_R_cutAfter) B.pre
  have hown : s.vm.findClass R_R = some m.cls := findClass_of_methodNamed B.named
  have hlocks := B.notSynchronized
  have hl := lv_entry ([.ref (ad 0), .int n]) (n := 2) (Nat.le_of_ble_eq_true rfl)
  rw [lg_entry_eq]
  generalize (lg_sl ([.ref (ad 0), .int n]) ++ List.replicate (2 - (lg_sl ([.ref (ad 0), .int n])).length) Slot.unset).toArray = ls at hl ⊢
  have hl : lv_has ls 2 [(0, .ref (ad 0)), (1, .int n)] := hl
  refine lv_iload_n hx hb d_R_cutAfter_0 rfl (lv_at hl 1 rfl) ?_
  refine lv_iconst (v := nI 0) hx hb d_R_cutAfter_1 (by decide) ?_
  refine lv_sipush (v := nI 300) hx hb d_R_cutAfter_2 (by decide) ?_
  refine vp_callSi (va_runS (As := [.int n, .int (nI 0), .int (nI 300)]) (rest := []) ⟨hx, hb, hml, hown, hts⟩ (c_R_isWithin l dC dI n (nI 0) (nI 300) ) (cwS 3 hts (g_S t_271 t_207 t_1 t_208) rfl rfl rfl (by decide +kernel) ⟨by decide, by decide⟩) (xR_s (va_P.sub hP [] rfl) (hK.sub [] rfl)) rfl rfl hl.1 rfl (lv_room (Nat.le_of_ble_eq_true rfl)) d_R_cutAfter_5 ⟨Nat.zero_le _, Nat.zero_le _⟩).run (fun r5 q5 => ?_)
  obtain ⟨rfl, -⟩ := q5.resolve_left (fun z => (hok) z.2)
  exact th_out (rest := []) hnt hlocks (fun T hT X => th_runS (As := [.int (nI 0)]) (rest := []) ⟨hx, hb, hml, hown, hts⟩ (th_R_requireArgument l hl9 az) (cwS 1 hts (g_S t_272 t_273 t_1 t_274) rfl rfl rfl (by decide +kernel) ⟨by decide, by decide⟩) (tP_s hz hn) rfl rfl hl.1 rfl (lv_room (Nat.le_of_ble_eq_true rfl)) d_R_cutAfter_8 ⟨by decide, by decide⟩ hT X)
set_option maxHeartbeats 4000000 in
set_option maxRecDepth 100000 in
theorem th_R_wearOf (l : Launch) (hl9 : l.stackTraces = false) (dC : Nat → ClassId) (dI : Nat → Nat → Nat) (ad cd : Nat → Nat) (az : Nat) (w wr fl : Nat → Int32) (pw sc : Int32) (lw rot vb : Nat → Int32) (rec tk : Int32) (live row : Nat → Int32) (cur ser dur wo : Int32) (bts : Nat → Int32) (us : Int32) (act : Nat → Int32) (rd rs : Int32) (b : Int32) (hok : ¬ (nI 0 ≤ b ∧ b ≤ nI 7)) : Thr l y_R_wearOf w_R_wearOf ({ frames := 7, cells := 1, slots := 6, locals := 120 }) (xT (dC, dI) vwCl (xt cd) (xw ad cd w wr fl (nI 1) (-1) lw rot vb (nI 0) (nI 0) live row (-1) (nI 0) (nI 0) (nI 0) bts (nI 0) act (nI 0) (nI 0)) az [.ref (ad 0), .int b]) E_A := by
  refine Thr.ofW (cc := b_R_wearOf) (maxL := 2) (ret := (some (.int))) (by decide) rfl ?_
  intro P e s m args below meth c0 s₁ B hml hnt hv
  obtain ⟨rfl, hP, hK, hz, hn⟩ := hv
  have hx := B.exec
  have hb := B.bytes
  have hr := B.returns
  have hts := atoms_spec (ws := w_R_wearOf) B.pre
  have hown : s.vm.findClass R_R = some m.cls := findClass_of_methodNamed B.named
  have hlocks := B.notSynchronized
  have hl := lv_entry ([.ref (ad 0), .int b]) (n := 2) (Nat.le_of_ble_eq_true rfl)
  rw [lg_entry_eq]
  generalize (lg_sl ([.ref (ad 0), .int b]) ++ List.replicate (2 - (lg_sl ([.ref (ad 0), .int b])).length) Slot.unset).toArray = ls at hl ⊢
  have hl : lv_has ls 2 [(0, .ref (ad 0)), (1, .int b)] := hl
  refine lv_iload_n hx hb d_R_wearOf_0 rfl (lv_at hl 1 rfl) ?_
  refine lv_iconst (v := nI 0) hx hb d_R_wearOf_1 (by decide) ?_
  refine lv_bipush (v := nI 7) hx hb d_R_wearOf_2 (by decide) ?_
  refine vp_callSi (va_runS (As := [.int b, .int (nI 0), .int (nI 7)]) (rest := []) ⟨hx, hb, hml, hown, hts⟩ (c_R_isWithin l dC dI b (nI 0) (nI 7) ) (cwS 3 hts (g_S t_271 t_207 t_1 t_208) rfl rfl rfl (by decide +kernel) ⟨by decide, by decide⟩) (xR_s (va_P.sub hP [] rfl) (hK.sub [] rfl)) rfl rfl hl.1 rfl (lv_room (Nat.le_of_ble_eq_true rfl)) d_R_wearOf_4 ⟨Nat.zero_le _, Nat.zero_le _⟩).run (fun r4 q4 => ?_)
  obtain ⟨rfl, -⟩ := q4.resolve_left (fun z => (hok) z.2)
  exact th_out (rest := []) hnt hlocks (fun T hT X => th_runS (As := [.int (nI 0)]) (rest := []) ⟨hx, hb, hml, hown, hts⟩ (th_R_requireArgument l hl9 az) (cwS 1 hts (g_S t_272 t_273 t_1 t_274) rfl rfl rfl (by decide +kernel) ⟨by decide, by decide⟩) (tP_s hz hn) rfl rfl hl.1 rfl (lv_room (Nat.le_of_ble_eq_true rfl)) d_R_wearOf_7 ⟨by decide, by decide⟩ hT X)
set_option maxHeartbeats 4000000 in
set_option maxRecDepth 100000 in
theorem th_R_failBlock (l : Launch) (hl9 : l.stackTraces = false) (dC : Nat → ClassId) (dI : Nat → Nat → Nat) (ad cd : Nat → Nat) (az : Nat) (w wr fl : Nat → Int32) (pw sc : Int32) (lw rot vb : Nat → Int32) (rec tk : Int32) (live row : Nat → Int32) (cur ser dur wo : Int32) (bts : Nat → Int32) (us : Int32) (act : Nat → Int32) (rd rs : Int32) (b : Int32) (hok : ¬ (nI 0 ≤ b ∧ b ≤ nI 7)) : Thr l y_R_failBlock w_R_failBlock ({ frames := 7, cells := 1, slots := 6, locals := 120 }) (xT (dC, dI) vwCl (xt cd) (xw ad cd w wr fl (nI 1) (-1) lw rot vb (nI 0) (nI 0) live row (-1) (nI 0) (nI 0) (nI 0) bts (nI 0) act (nI 0) (nI 0)) az [.ref (ad 0), .int b]) E_A := by
  refine Thr.ofW (cc := b_R_failBlock) (maxL := 2) (ret := none) (by decide) rfl ?_
  intro P e s m args below meth c0 s₁ B hml hnt hv
  obtain ⟨rfl, hP, hK, hz, hn⟩ := hv
  have hx := B.exec
  have hb := B.bytes
  have hr := B.returns
  have hts := atoms_spec (ws := w_R_failBlock) B.pre
  have hown : s.vm.findClass R_R = some m.cls := findClass_of_methodNamed B.named
  have hlocks := B.notSynchronized
  have hl := lv_entry ([.ref (ad 0), .int b]) (n := 2) (Nat.le_of_ble_eq_true rfl)
  rw [lg_entry_eq]
  generalize (lg_sl ([.ref (ad 0), .int b]) ++ List.replicate (2 - (lg_sl ([.ref (ad 0), .int b])).length) Slot.unset).toArray = ls at hl ⊢
  have hl : lv_has ls 2 [(0, .ref (ad 0)), (1, .int b)] := hl
  refine lv_iload_n hx hb d_R_failBlock_0 rfl (lv_at hl 1 rfl) ?_
  refine lv_iconst (v := nI 0) hx hb d_R_failBlock_1 (by decide) ?_
  refine lv_bipush (v := nI 7) hx hb d_R_failBlock_2 (by decide) ?_
  refine vp_callSi (va_runS (As := [.int b, .int (nI 0), .int (nI 7)]) (rest := []) ⟨hx, hb, hml, hown, hts⟩ (c_R_isWithin l dC dI b (nI 0) (nI 7) ) (cwS 3 hts (g_S t_271 t_207 t_1 t_208) rfl rfl rfl (by decide +kernel) ⟨by decide, by decide⟩) (xR_s (va_P.sub hP [] rfl) (hK.sub [] rfl)) rfl rfl hl.1 rfl (lv_room (Nat.le_of_ble_eq_true rfl)) d_R_failBlock_4 ⟨Nat.zero_le _, Nat.zero_le _⟩).run (fun r4 q4 => ?_)
  obtain ⟨rfl, -⟩ := q4.resolve_left (fun z => (hok) z.2)
  exact th_out (rest := []) hnt hlocks (fun T hT X => th_runS (As := [.int (nI 0)]) (rest := []) ⟨hx, hb, hml, hown, hts⟩ (th_R_requireArgument l hl9 az) (cwS 1 hts (g_S t_272 t_273 t_1 t_274) rfl rfl rfl (by decide +kernel) ⟨by decide, by decide⟩) (tP_s hz hn) rfl rfl hl.1 rfl (lv_room (Nat.le_of_ble_eq_true rfl)) d_R_failBlock_7 ⟨by decide, by decide⟩ hT X)
set_option maxHeartbeats 4000000 in
set_option maxRecDepth 100000 in
theorem th_R_poke (l : Launch) (hl9 : l.stackTraces = false) (dC : Nat → ClassId) (dI : Nat → Nat → Nat) (ad cd : Nat → Nat) (az : Nat) (w wr fl : Nat → Int32) (pw sc : Int32) (lw rot vb : Nat → Int32) (rec tk : Int32) (live row : Nat → Int32) (cur ser dur wo : Int32) (bts : Nat → Int32) (us : Int32) (act : Nat → Int32) (rd rs : Int32) (pa wo_ mask : Int32) (hbad : ¬ ((nI 0 ≤ pa ∧ pa ≤ nI 31) ∧ (nI 0 ≤ wo_ ∧ wo_ ≤ nI 15))) : Thr l y_R_poke w_R_poke ({ frames := 7, cells := 1, slots := 6, locals := 120 }) (xT (dC, dI) vwCl (xt cd) (xw ad cd w wr fl (nI 1) (-1) lw rot vb (nI 0) (nI 0) live row (-1) (nI 0) (nI 0) (nI 0) bts (nI 0) act (nI 0) (nI 0)) az [.ref (ad 0), .int pa, .int wo_, .int mask]) E_A := by
  refine Thr.ofW (cc := b_R_poke) (maxL := 4) (ret := none) (by decide) rfl ?_
  intro P e s m args below meth c0 s₁ B hml hnt hv
  obtain ⟨rfl, hP, hK, hz, hn⟩ := hv
  have hx := B.exec
  have hb := B.bytes
  have hr := B.returns
  have hts := atoms_spec (ws := w_R_poke) B.pre
  have hown : s.vm.findClass R_R = some m.cls := findClass_of_methodNamed B.named
  have hlocks := B.notSynchronized
  have hl := lv_entry ([.ref (ad 0), .int pa, .int wo_, .int mask]) (n := 4) (Nat.le_of_ble_eq_true rfl)
  rw [lg_entry_eq]
  generalize (lg_sl ([.ref (ad 0), .int pa, .int wo_, .int mask]) ++ List.replicate (4 - (lg_sl ([.ref (ad 0), .int pa, .int wo_, .int mask])).length) Slot.unset).toArray = ls at hl ⊢
  have hl : lv_has ls 4 [(0, .ref (ad 0)), (1, .int pa), (2, .int wo_), (3, .int mask)] := hl
  refine lv_iload_n hx hb d_R_poke_0 rfl (lv_at hl 1 rfl) ?_
  refine lv_iload_n hx hb d_R_poke_1 rfl (lv_at hl 2 rfl) ?_
  refine vp_callSi (va_runS (As := [.int pa, .int wo_]) (rest := []) ⟨hx, hb, hml, hown, hts⟩ (c_R_isPlace l dC dI pa wo_ ) (cwS 2 hts (g_S t_687 t_688 t_1 t_689) rfl rfl rfl (by decide +kernel) ⟨by decide, by decide⟩) (xR_s (va_P.sub hP [] rfl) (hK.sub [] rfl)) rfl rfl hl.1 rfl (lv_room (Nat.le_of_ble_eq_true rfl)) d_R_poke_2 ⟨Nat.zero_le _, Nat.zero_le _⟩).run (fun r2 q2 => ?_)
  obtain ⟨rfl, -⟩ := q2.resolve_left (fun z => (hbad) z.2)
  exact th_out (rest := []) hnt hlocks (fun T hT X => th_runS (As := [.int (nI 0)]) (rest := []) ⟨hx, hb, hml, hown, hts⟩ (th_R_requireArgument l hl9 az) (cwS 1 hts (g_S t_272 t_273 t_1 t_274) rfl rfl rfl (by decide +kernel) ⟨by decide, by decide⟩) (tP_s hz hn) rfl rfl hl.1 rfl (lv_room (Nat.le_of_ble_eq_true rfl)) d_R_poke_5 ⟨by decide, by decide⟩ hT X)
set_option maxHeartbeats 4000000 in
set_option maxRecDepth 100000 in
theorem th_R_word (l : Launch) (hl9 : l.stackTraces = false) (dC : Nat → ClassId) (dI : Nat → Nat → Nat) (ad cd : Nat → Nat) (az : Nat) (w wr fl : Nat → Int32) (pw sc : Int32) (lw rot vb : Nat → Int32) (rec tk : Int32) (live row : Nat → Int32) (cur ser dur wo : Int32) (bts : Nat → Int32) (us : Int32) (act : Nat → Int32) (rd rs : Int32) (pa wo_ : Int32) (hbad : ¬ ((nI 0 ≤ pa ∧ pa ≤ nI 31) ∧ (nI 0 ≤ wo_ ∧ wo_ ≤ nI 15))) : Thr l y_R_word w_R_word ({ frames := 7, cells := 1, slots := 6, locals := 120 }) (xT (dC, dI) vwCl (xt cd) (xw ad cd w wr fl (nI 1) (-1) lw rot vb (nI 0) (nI 0) live row (-1) (nI 0) (nI 0) (nI 0) bts (nI 0) act (nI 0) (nI 0)) az [.ref (ad 0), .int pa, .int wo_]) E_I := by
  refine Thr.ofW (cc := b_R_word) (maxL := 3) (ret := (some (.int))) (by decide) rfl ?_
  intro P e s m args below meth c0 s₁ B hml hnt hv
  obtain ⟨rfl, hP, hK, hz, hn⟩ := hv
  have hx := B.exec
  have hb := B.bytes
  have hr := B.returns
  have hts := atoms_spec (ws := w_R_word) B.pre
  have hown : s.vm.findClass R_R = some m.cls := findClass_of_methodNamed B.named
  have hlocks := B.notSynchronized
  have hl := lv_entry ([.ref (ad 0), .int pa, .int wo_]) (n := 3) (Nat.le_of_ble_eq_true rfl)
  rw [lg_entry_eq]
  generalize (lg_sl ([.ref (ad 0), .int pa, .int wo_]) ++ List.replicate (3 - (lg_sl ([.ref (ad 0), .int pa, .int wo_])).length) Slot.unset).toArray = ls at hl ⊢
  have hl : lv_has ls 3 [(0, .ref (ad 0)), (1, .int pa), (2, .int wo_)] := hl
  refine lv_iload_n hx hb d_R_word_0 rfl (lv_at hl 1 rfl) ?_
  refine lv_iload_n hx hb d_R_word_1 rfl (lv_at hl 2 rfl) ?_
  refine vp_callSi (va_runS (As := [.int pa, .int wo_]) (rest := []) ⟨hx, hb, hml, hown, hts⟩ (c_R_isPlace l dC dI pa wo_ ) (cwS 2 hts (g_S t_687 t_688 t_1 t_689) rfl rfl rfl (by decide +kernel) ⟨by decide, by decide⟩) (xR_s (va_P.sub hP [] rfl) (hK.sub [] rfl)) rfl rfl hl.1 rfl (lv_room (Nat.le_of_ble_eq_true rfl)) d_R_word_2 ⟨Nat.zero_le _, Nat.zero_le _⟩).run (fun r2 q2 => ?_)
  obtain ⟨rfl, -⟩ := q2.resolve_left (fun z => (hbad) z.2)
  exact th_out (rest := []) hnt hlocks (fun T hT X => th_runS (As := [.int (nI 0)]) (rest := []) ⟨hx, hb, hml, hown, hts⟩ (th_R_requireIndex l hl9 az) (cwS 1 hts (g_S t_491 t_492 t_1 t_493) rfl rfl rfl (by decide +kernel) ⟨by decide, by decide⟩) (tP_s hz hn) rfl rfl hl.1 rfl (lv_room (Nat.le_of_ble_eq_true rfl)) d_R_word_5 ⟨by decide, by decide⟩ hT X)
set_option maxHeartbeats 4000000 in
set_option maxRecDepth 100000 in
theorem th_R_ticket (l : Launch) (hl9 : l.stackTraces = false) (dC : Nat → ClassId) (dI : Nat → Nat → Nat) (ad cd : Nat → Nat) (az : Nat) (w wr fl : Nat → Int32) (pw sc : Int32) (lw rot vb : Nat → Int32) (rec tk : Int32) (live row : Nat → Int32) (cur ser dur wo : Int32) (bts : Nat → Int32) (us : Int32) (act : Nat → Int32) (rd rs : Int32) (n what : Int32) : Thr l y_R_ticket w_R_ticket ({ frames := 7, cells := 1, slots := 6, locals := 120 }) (xT (dC, dI) vwCl (xt cd) (xw ad cd w wr fl (nI 1) (-1) lw rot vb (nI 0) (nI 0) live row (-1) (nI 0) (nI 0) (nI 0) bts (nI 0) act (nI 0) (nI 0)) az [.ref (ad 0), .int n, .int what]) E_I := by
  refine Thr.ofW (cc := b_R_ticket) (maxL := 3) (ret := (some (.int))) (by decide) rfl ?_
  intro P e s m args below meth c0 s₁ B hml hnt hv
  obtain ⟨rfl, hP, hK, hz, hn⟩ := hv
  have hx := B.exec
  have hb := B.bytes
  have hr := B.returns
  have hts := atoms_spec (ws := w_R_ticket) B.pre
  have hown : s.vm.findClass R_R = some m.cls := findClass_of_methodNamed B.named
  have hlocks := B.notSynchronized
  have hl := lv_entry ([.ref (ad 0), .int n, .int what]) (n := 3) (Nat.le_of_ble_eq_true rfl)
  rw [lg_entry_eq]
  generalize (lg_sl ([.ref (ad 0), .int n, .int what]) ++ List.replicate (3 - (lg_sl ([.ref (ad 0), .int n, .int what])).length) Slot.unset).toArray = ls at hl ⊢
  have hl : lv_has ls 3 [(0, .ref (ad 0)), (1, .int n), (2, .int what)] := hl
  refine lv_aload_n hx hb d_R_ticket_0 rfl (lv_at hl 0 rfl) ?_
  refine va_get (D := (dC, dI)) (ci := 4) (v := .ref (ad 2)) (C := R_R) (T := F_R) (N := 7) hx hb hts (fun w h => List.mem_cons_of_mem _ (in_R w h)) hown hK hP 0 rfl rfl 1 (by decide) (hts (.fieldLink R_R 20 R_R "chip" "LWeighRecorder$Chip;") (List.mem_cons_of_mem _ t_115)) (fun _ h9 => h9) rfl d_R_ticket_1 ?_
  refine vp_callSi (va_runV (C := R_C) (As := []) (rest := []) ⟨hx, hb, hml, hown, hts⟩ (c_C_isPowered l dC dI ad cd w wr fl (nI 1) (-1) lw rot vb (nI 0) (nI 0) live row (-1) (nI 0) (nI 0) (nI 0) bts (nI 0) act (nI 0) (nI 0)  (by first | omega | rfl | assumption | decide)) (cwV 0 hts (g_V t_225 t_226 t_227 t_3 t_228) rfl rfl rfl (by decide +kernel) ⟨by decide, by decide⟩) (xR_v hP hK 2 rfl rfl) rfl rfl hl.1 rfl (lv_room (Nat.le_of_ble_eq_true rfl)) d_R_ticket_4 ⟨Nat.zero_le _, Nat.zero_le _⟩).run (fun r4 q4 => ?_)
  subst q4
  refine va_csv (va_runS (As := [.int (nI 1)]) (rest := []) ⟨hx, hb, hml, hown, hts⟩ (c_R_requireState_1 l dC dI  ) (cwS 1 hts (g_S t_338 t_339 t_1 t_340) rfl rfl rfl (by decide +kernel) ⟨by decide, by decide⟩) (xR_s (va_P.sub hP [] rfl) (hK.sub [] rfl)) rfl rfl hl.1 rfl (lv_room (Nat.le_of_ble_eq_true rfl)) d_R_ticket_7 ⟨Nat.zero_le _, Nat.zero_le _⟩).run (fun q7 => ?_)
  refine lv_aload_n hx hb d_R_ticket_10 rfl (lv_at hl 0 rfl) ?_
  refine va_get (D := (dC, dI)) (ci := 4) (v := .ref (ad 3)) (C := R_R) (T := F_R) (N := 7) hx hb hts (fun w h => List.mem_cons_of_mem _ (in_R w h)) hown hK hP 0 rfl rfl 2 (by decide) (hts (.fieldLink R_R 26 R_R "log" "LWeighRecorder$Log;") (List.mem_cons_of_mem _ t_116)) (fun _ h9 => h9) rfl d_R_ticket_11 ?_
  refine lv_iload_n hx hb d_R_ticket_14 rfl (lv_at hl 1 rfl) ?_
  refine vp_callSi (va_runV (C := R_G) (As := [.int n]) (rest := []) ⟨hx, hb, hml, hown, hts⟩ (c_G_hasTicket l dC dI ad cd w wr fl (nI 1) (-1) lw rot vb (nI 0) (nI 0) live row (-1) (nI 0) (nI 0) (nI 0) bts (nI 0) act (nI 0) (nI 0) n ) (cwV 1 hts (g_V t_473 t_199 t_200 t_4 t_201) rfl rfl rfl (by decide +kernel) ⟨by decide, by decide⟩) (xR_v hP hK 3 rfl rfl) rfl rfl hl.1 rfl (lv_room (Nat.le_of_ble_eq_true rfl)) d_R_ticket_15 ⟨Nat.zero_le _, Nat.zero_le _⟩).run (fun r15 q15 => ?_)
  obtain ⟨rfl, -⟩ := q15.resolve_left (fun z => (fun z => not_tk z) z.2)
  refine lv_if_eq (tgt := 35) hx hb d_R_ticket_18 (by decide) (fun c18 => ?_) (fun c18 => ?_)
  ·
    refine lv_iconst (v := nI 0) hx hb d_R_ticket_35 (by decide) ?_
    exact th_out (rest := []) hnt hlocks (fun T hT X => th_runS (As := [.int (nI 0)]) (rest := []) ⟨hx, hb, hml, hown, hts⟩ (th_R_requireIndex l hl9 az) (cwS 1 hts (g_S t_491 t_492 t_1 t_493) rfl rfl rfl (by decide +kernel) ⟨by decide, by decide⟩) (tP_s hz hn) rfl rfl hl.1 rfl (lv_room (Nat.le_of_ble_eq_true rfl)) d_R_ticket_36 ⟨by decide, by decide⟩ hT X)
  ·
    exact absurd c18 (by decide)
end
section
set_option maxHeartbeats 4000000 in
set_option maxRecDepth 100000 in
theorem cw_L_axle (l : Launch) (dC : Nat → ClassId) (dI : Nat → Nat → Nat) (ad cd : Nat → Nat) (ao co : Nat) (sz : Nat) (w wr fl : Nat → Int32) (pw sc : Int32) (lw rot vb : Nat → Int32) (rec tk : Int32) (live row : Nat → Int32) (cur ser dur wo : Int32) (bts : Nat → Int32) (us : Int32) (act : Nat → Int32) (rd rs : Int32) (fo : Nat → Int64) (st : Int32) (hok : (nI 1 ≤ st ∧ st ≤ nI 1200)) : Met l y_L_axle w_L_axle ({ frames := 2, cells := 0, slots := 0, locals := 43 }) (xP (dC, dI) vwCl ((co, .long) :: xt cd) ((ao, .inl (co, 1, .inr (.inl fo))) :: (xw ad cd w wr fl (nI 1) (-1) lw rot vb (nI 0) (nI 0) live row (-1) (nI 0) (nI 0) (nI 0) bts (nI 0) act (nI 0) (nI 0))) sz [.ref (ad 0), .int st, .ref ao]) (va_Qi (fun r (u : Unit) => r = nI 0) (fun (u : Unit) (t : State) => xB (dC, dI) vwCl ((co, .long) :: xt cd) (oA ao ad sz) ((ao, .inl (co, 1, .inr (.inl (vp_updL fo 0 ((nI 1).toInt64))))) :: (xw ad cd w wr fl (nI 1) (-1) lw rot vb (nI 0) (nI 0) live row (-1) (nI 0) (nI 0) (nI 0) bts (nI 0) act (nI (0 + 1)) (nI 0 + st))) t) (oA ao ad sz)) 0 0 (oA ao ad sz) := by
  refine va_MetW (cc := b_L_axle) (maxL := 4) (ret := (some (.int))) (by decide) rfl ?_
  intro P e s m args below meth c0 s₁ B hml hv
  obtain ⟨rfl, hsz, hP, hK, hD0⟩ := hv
  have hx := B.exec
  have hb := B.bytes
  have hr := B.returns
  have hts := atoms_spec (ws := w_L_axle) B.pre
  have hown : s.vm.findClass R_L = some m.cls := findClass_of_methodNamed B.named
  have hlocks := B.notSynchronized
  subst hsz
  have hD := ow_D (sz := s.heap.size) hD0
  have hS : va_S (oA ao ad s.heap.size) s.heap s.heap [] := va_S.rf
  have hA : ∀ q : Nat, s.heap.size ≤ q → (oA ao ad s.heap.size) q := fun q h => Or.inr (Or.inr h)
  have hl := lv_entry ([.ref (ad 0), .int st, .ref ao]) (n := 4) (Nat.le_of_ble_eq_true rfl)
  rw [lg_entry_eq]
  generalize (lg_sl ([.ref (ad 0), .int st, .ref ao]) ++ List.replicate (4 - (lg_sl ([.ref (ad 0), .int st, .ref ao])).length) Slot.unset).toArray = ls at hl ⊢
  have hl : lv_has ls 4 [(0, .ref (ad 0)), (1, .int st), (2, .ref ao)] := hl
  refine lv_aload_n hx hb d_L_axle_0 rfl (lv_at hl 2 rfl) ?_
  refine lv_iconst (v := nI 0) hx hb d_L_axle_1 (by decide) ?_
  refine lv_aload_n hx hb d_L_axle_2 rfl (lv_at hl 0 rfl) ?_
  refine lv_iload_n hx hb d_L_axle_3 rfl (lv_at hl 1 rfl) ?_
  have hPc := hP.sub (ws' := (xw ad cd w wr fl (nI 1) (-1) lw rot vb (nI 0) (nI 0) live row (-1) (nI 0) (nI 0) (nI 0) bts (nI 0) act (nI 0) (nI 0))) [1, 2, 3, 4, 5, 6, 7, 8, 9, 10, 11, 12, 13, 14, 15] rfl
  have hKc := hK.sub (tys' := (xt cd)) [1, 2, 3, 4, 5, 6, 7, 8, 9, 10] rfl
  have hDc := hD.sub (ws' := (xw ad cd w wr fl (nI 1) (-1) lw rot vb (nI 0) (nI 0) live row (-1) (nI 0) (nI 0) (nI 0) bts (nI 0) act (nI 0) (nI 0))) [1, 2, 3, 4, 5, 6, 7, 8, 9, 10, 11, 12, 13, 14, 15] (by decide) rfl
  have hFc := va_free (wc := (xw ad cd w wr fl (nI 1) (-1) lw rot vb (nI 0) (nI 0) live row (-1) (nI 0) (nI 0) (nI 0) bts (nI 0) act (nI 0) (nI 0))) hD hS hA [1, 2, 3, 4, 5, 6, 7, 8, 9, 10, 11, 12, 13, 14, 15] rfl
  have hSz := hS.1
  refine va_calli (va_runV (C := R_R) (As := [.int st]) (rest := [.int (nI 0), .ref ao]) ⟨hx, hb, hml, hown, hts⟩ (c_R_axle_ok l dC dI ad cd s.heap.size w wr fl (nI 1) (-1) lw rot vb (nI 0) (nI 0) live row (-1) (nI 0) (nI 0) (nI 0) bts (nI 0) act (nI 0) (nI 0) st (hok)) (cwV 1 hts (g_V t_267 t_268 t_269 t_1 t_270) rfl rfl rfl (by decide +kernel) ⟨by decide, by decide⟩) (xP_v hPc hKc hDc 0 rfl rfl) rfl rfl hl.1 rfl (lv_room (Nat.le_of_ble_eq_true rfl)) d_L_axle_4 ⟨Nat.le_refl _, Nat.le_refl _⟩) hS (fun q _ h => hFc q (xw_A h)) (fun q h => hFc q (xw_A h)) (fun r4 u4 t H1 locs1 ht hvm q4 hB hz1 hk1 hS => ?_)
  obtain ⟨hP1, hK1, hD1⟩ := hB
  rw [ht] at hP1
  obtain ⟨hP, hD⟩ := va_join (wr := [(ao, .inl (co, 1, .inr (.inl fo)))]) (w1 := (xw ad cd w wr fl (nI 1) (-1) lw rot vb (nI 0) (nI 0) live row (-1) (nI 0) (nI 0) (nI 0) bts (nI 0) act (nI (0 + 1)) (nI 0 + st))) hP hD [1, 2, 3, 4, 5, 6, 7, 8, 9, 10, 11, 12, 13, 14, 15] [0] rfl rfl (by decide) (by decide) (fun q h1 h2 => hk1 q h1 (fun z => h2 (xw_A z))) hFc hP1 (hD1.weaken (fun _ _ _ h => xw_A h))
  have hP : va_P (dC, dI) vwCl ((ao, .inl (co, 1, .inr (.inl fo))) :: (xw ad cd w wr fl (nI 1) (-1) lw rot vb (nI 0) (nI 0) live row (-1) (nI 0) (nI 0) (nI 0) bts (nI 0) act (nI (0 + 1)) (nI 0 + st))) H1 := hP.sub [0, 1, 2, 3, 4, 5, 6, 7, 8, 9, 10, 11, 12, 13, 14, 15] rfl
  have hD : va_D (oA ao ad s.heap.size) ((ao, .inl (co, 1, .inr (.inl fo))) :: (xw ad cd w wr fl (nI 1) (-1) lw rot vb (nI 0) (nI 0) live row (-1) (nI 0) (nI 0) (nI 0) bts (nI 0) act (nI (0 + 1)) (nI 0 + st))) := hD.sub [0, 1, 2, 3, 4, 5, 6, 7, 8, 9, 10, 11, 12, 13, 14, 15] (by decide) rfl
  generalize H1 = H at hP hS ⊢
  generalize locs1 = locs at hS ⊢
  subst q4
  refine lv_i2l (v := (nI 1).toInt64) hx hb d_L_axle_7 rfl ?_
  refine va_last hx hb hK hP hD hS 0 0 rfl rfl (vp_in_nI (by omega) (by decide)) d_L_axle_8 (fun H locs hP hD hS => ?_)
  rw [nI_clamp (by omega)] at hP hD
  have hP : va_P (dC, dI) vwCl ((ao, .inl (co, 1, .inr (.inl (vp_updL fo 0 ((nI 1).toInt64))))) :: (xw ad cd w wr fl (nI 1) (-1) lw rot vb (nI 0) (nI 0) live row (-1) (nI 0) (nI 0) (nI 0) bts (nI 0) act (nI (0 + 1)) (nI 0 + st))) H := hP
  have hD : va_D (oA ao ad s.heap.size) ((ao, .inl (co, 1, .inr (.inl (vp_updL fo 0 ((nI 1).toInt64))))) :: (xw ad cd w wr fl (nI 1) (-1) lw rot vb (nI 0) (nI 0) live row (-1) (nI 0) (nI 0) (nI 0) bts (nI 0) act (nI (0 + 1)) (nI 0 + st))) := hD
  refine lv_goto (tgt := 18) hx hb d_L_axle_9 (by decide) ?_
  refine lv_iconst (v := nI 0) hx hb d_L_axle_18 (by decide) ?_
  exact W.iret (v := nI 0) hx hb hr (fun t ht hW => ⟨⟨nI 0, (), rfl, by first | rfl | trivial | omega, ⟨by rw [ht]; exact hP, va_K.moved hW.alike hK, hD⟩⟩, hS.F ht⟩) hS.2.2 d_L_axle_19
set_option maxHeartbeats 4000000 in
set_option maxRecDepth 100000 in
theorem cw_L_close (l : Launch) (dC : Nat → ClassId) (dI : Nat → Nat → Nat) (ad cd : Nat → Nat) (ao co : Nat) (sz : Nat) (w wr fl : Nat → Int32) (pw sc : Int32) (lw rot vb : Nat → Int32) (rec tk : Int32) (live row : Nat → Int32) (cur ser dur wo : Int32) (bts : Nat → Int32) (us : Int32) (act : Nat → Int32) (rd rs : Int32) (fo : Nat → Int64) (plate tare product clock : Int32) (h1 : (nI 0 ≤ tare ∧ tare ≤ nI 216000)) (h2 : (nI 0 ≤ product ∧ product ≤ nI 39)) (h3 : (nI 0 ≤ clock ∧ clock ≤ nI 67108863)) : Met l y_L_close w_L_close ({ frames := 3, cells := 0, slots := 0, locals := 67 }) (xP (dC, dI) vwCl ((co, .long) :: xt cd) ((ao, .inl (co, 1, .inr (.inl fo))) :: (xw ad cd w wr fl (nI 1) (-1) lw rot vb (nI 0) (nI 0) live row (-1) (nI 0) (nI 0) (nI 0) bts (nI 0) act (nI 0) (nI 0))) sz [.ref (ad 0), .int plate, .int tare, .int product, .int clock, .ref ao]) (va_Qi (fun r (u : Unit) => r = nI 0) (fun (u : Unit) (t : State) => xB (dC, dI) vwCl ((co, .long) :: xt cd) (oA ao ad sz) ((ao, .inl (co, 1, .inr (.inl (vp_updL fo 0 ((nI 0).toInt64))))) :: (xw ad cd w wr fl (nI 1) (-1) lw rot vb (nI 0) (nI 0) live row (-1) (nI 0) (nI 0) (nI 0) bts (nI 0) act (nI 0) (nI 0))) t) (oA ao ad sz)) 0 0 (oA ao ad sz) := by
  refine va_MetW (cc := b_L_close) (maxL := 7) (ret := (some (.int))) (by decide) rfl ?_
  intro P e s m args below meth c0 s₁ B hml hv
  obtain ⟨rfl, hsz, hP, hK, hD0⟩ := hv
  have hx := B.exec
  have hb := B.bytes
  have hr := B.returns
  have hts := atoms_spec (ws := w_L_close) B.pre
  have hown : s.vm.findClass R_L = some m.cls := findClass_of_methodNamed B.named
  have hlocks := B.notSynchronized
  subst hsz
  have hD := ow_D (sz := s.heap.size) hD0
  have hS : va_S (oA ao ad s.heap.size) s.heap s.heap [] := va_S.rf
  have hA : ∀ q : Nat, s.heap.size ≤ q → (oA ao ad s.heap.size) q := fun q h => Or.inr (Or.inr h)
  have hl := lv_entry ([.ref (ad 0), .int plate, .int tare, .int product, .int clock, .ref ao]) (n := 7) (Nat.le_of_ble_eq_true rfl)
  rw [lg_entry_eq]
  generalize (lg_sl ([.ref (ad 0), .int plate, .int tare, .int product, .int clock, .ref ao]) ++ List.replicate (7 - (lg_sl ([.ref (ad 0), .int plate, .int tare, .int product, .int clock, .ref ao])).length) Slot.unset).toArray = ls at hl ⊢
  have hl : lv_has ls 7 [(0, .ref (ad 0)), (1, .int plate), (2, .int tare), (3, .int product), (4, .int clock), (5, .ref ao)] := hl
  refine lv_aload hx hb d_L_close_0 (lv_at hl 5 rfl) ?_
  refine lv_iconst (v := nI 0) hx hb d_L_close_2 (by decide) ?_
  refine lv_aload_n hx hb d_L_close_3 rfl (lv_at hl 0 rfl) ?_
  refine lv_iload_n hx hb d_L_close_4 rfl (lv_at hl 1 rfl) ?_
  refine lv_iload_n hx hb d_L_close_5 rfl (lv_at hl 2 rfl) ?_
  refine lv_iload_n hx hb d_L_close_6 rfl (lv_at hl 3 rfl) ?_
  refine lv_iload hx hb d_L_close_7 (lv_at hl 4 rfl) ?_
  have hPc := hP.sub (ws' := (xw ad cd w wr fl (nI 1) (-1) lw rot vb (nI 0) (nI 0) live row (-1) (nI 0) (nI 0) (nI 0) bts (nI 0) act (nI 0) (nI 0))) [1, 2, 3, 4, 5, 6, 7, 8, 9, 10, 11, 12, 13, 14, 15] rfl
  have hKc := hK.sub (tys' := (xt cd)) [1, 2, 3, 4, 5, 6, 7, 8, 9, 10] rfl
  refine vp_callSi (va_runV (C := R_R) (As := [.int plate, .int tare, .int product, .int clock]) (rest := [.int (nI 0), .ref ao]) ⟨hx, hb, hml, hown, hts⟩ (c_R_close_ok l dC dI ad cd w wr fl (nI 1) (-1) lw rot vb (nI 0) (nI 0) live row (-1) (nI 0) (nI 0) (nI 0) bts (nI 0) act (nI 0) (nI 0) plate tare product clock (h1) (h2) (h3)) (cwV 4 hts (g_V t_359 t_360 t_361 t_1 t_362) rfl rfl rfl (by decide +kernel) ⟨by decide, by decide⟩) (xR_v hPc hKc 0 rfl rfl) rfl rfl hl.1 rfl (lv_room (Nat.le_of_ble_eq_true rfl)) d_L_close_9 ⟨Nat.le_refl _, Nat.le_refl _⟩).run (fun r9 q9 => ?_)
  subst q9
  refine lv_i2l (v := (nI 0).toInt64) hx hb d_L_close_12 rfl ?_
  refine va_last hx hb hK hP hD hS 0 0 rfl rfl (vp_in_nI (by omega) (by decide)) d_L_close_13 (fun H locs hP hD hS => ?_)
  rw [nI_clamp (by omega)] at hP hD
  have hP : va_P (dC, dI) vwCl ((ao, .inl (co, 1, .inr (.inl (vp_updL fo 0 ((nI 0).toInt64))))) :: (xw ad cd w wr fl (nI 1) (-1) lw rot vb (nI 0) (nI 0) live row (-1) (nI 0) (nI 0) (nI 0) bts (nI 0) act (nI 0) (nI 0))) H := hP
  have hD : va_D (oA ao ad s.heap.size) ((ao, .inl (co, 1, .inr (.inl (vp_updL fo 0 ((nI 0).toInt64))))) :: (xw ad cd w wr fl (nI 1) (-1) lw rot vb (nI 0) (nI 0) live row (-1) (nI 0) (nI 0) (nI 0) bts (nI 0) act (nI 0) (nI 0))) := hD
  refine lv_goto (tgt := 25) hx hb d_L_close_14 (by decide) ?_
  refine lv_iconst (v := nI 0) hx hb d_L_close_25 (by decide) ?_
  exact W.iret (v := nI 0) hx hb hr (fun t ht hW => ⟨⟨nI 0, (), rfl, by first | rfl | trivial | omega, ⟨by rw [ht]; exact hP, va_K.moved hW.alike hK, hD⟩⟩, hS.F ht⟩) hS.2.2 d_L_close_26
set_option maxHeartbeats 4000000 in
set_option maxRecDepth 100000 in
theorem cw_L_annul (l : Launch) (dC : Nat → ClassId) (dI : Nat → Nat → Nat) (ad cd : Nat → Nat) (ao co : Nat) (sz : Nat) (w wr fl : Nat → Int32) (pw sc : Int32) (lw rot vb : Nat → Int32) (rec tk : Int32) (live row : Nat → Int32) (cur ser dur wo : Int32) (bts : Nat → Int32) (us : Int32) (act : Nat → Int32) (rd rs : Int32) (fo : Nat → Int64) (tno rea : Int32) (hok : (nI 0 ≤ rea ∧ rea ≤ nI 3)) : Met l y_L_annul w_L_annul ({ frames := 2, cells := 0, slots := 0, locals := 44 }) (xP (dC, dI) vwCl ((co, .long) :: xt cd) ((ao, .inl (co, 1, .inr (.inl fo))) :: (xw ad cd w wr fl (nI 1) (-1) lw rot vb (nI 0) (nI 0) live row (-1) (nI 0) (nI 0) (nI 0) bts (nI 0) act (nI 0) (nI 0))) sz [.ref (ad 0), .int tno, .int rea, .ref ao]) (va_Qi (fun r (u : Unit) => r = nI 0) (fun (u : Unit) (t : State) => xB (dC, dI) vwCl ((co, .long) :: xt cd) (oA ao ad sz) ((ao, .inl (co, 1, .inr (.inl (vp_updL fo 0 ((nI 0).toInt64))))) :: (xw ad cd w wr fl (nI 1) (-1) lw rot vb (nI 0) (nI 0) live row (-1) (nI 0) (nI 0) (nI 0) bts (nI 0) act (nI 0) (nI 0))) t) (oA ao ad sz)) 0 0 (oA ao ad sz) := by
  refine va_MetW (cc := b_L_annul) (maxL := 5) (ret := (some (.int))) (by decide) rfl ?_
  intro P e s m args below meth c0 s₁ B hml hv
  obtain ⟨rfl, hsz, hP, hK, hD0⟩ := hv
  have hx := B.exec
  have hb := B.bytes
  have hr := B.returns
  have hts := atoms_spec (ws := w_L_annul) B.pre
  have hown : s.vm.findClass R_L = some m.cls := findClass_of_methodNamed B.named
  have hlocks := B.notSynchronized
  subst hsz
  have hD := ow_D (sz := s.heap.size) hD0
  have hS : va_S (oA ao ad s.heap.size) s.heap s.heap [] := va_S.rf
  have hA : ∀ q : Nat, s.heap.size ≤ q → (oA ao ad s.heap.size) q := fun q h => Or.inr (Or.inr h)
  have hl := lv_entry ([.ref (ad 0), .int tno, .int rea, .ref ao]) (n := 5) (Nat.le_of_ble_eq_true rfl)
  rw [lg_entry_eq]
  generalize (lg_sl ([.ref (ad 0), .int tno, .int rea, .ref ao]) ++ List.replicate (5 - (lg_sl ([.ref (ad 0), .int tno, .int rea, .ref ao])).length) Slot.unset).toArray = ls at hl ⊢
  have hl : lv_has ls 5 [(0, .ref (ad 0)), (1, .int tno), (2, .int rea), (3, .ref ao)] := hl
  refine lv_aload_n hx hb d_L_annul_0 rfl (lv_at hl 3 rfl) ?_
  refine lv_iconst (v := nI 0) hx hb d_L_annul_1 (by decide) ?_
  refine lv_aload_n hx hb d_L_annul_2 rfl (lv_at hl 0 rfl) ?_
  refine lv_iload_n hx hb d_L_annul_3 rfl (lv_at hl 1 rfl) ?_
  refine lv_iload_n hx hb d_L_annul_4 rfl (lv_at hl 2 rfl) ?_
  have hPc := hP.sub (ws' := (xw ad cd w wr fl (nI 1) (-1) lw rot vb (nI 0) (nI 0) live row (-1) (nI 0) (nI 0) (nI 0) bts (nI 0) act (nI 0) (nI 0))) [1, 2, 3, 4, 5, 6, 7, 8, 9, 10, 11, 12, 13, 14, 15] rfl
  have hKc := hK.sub (tys' := (xt cd)) [1, 2, 3, 4, 5, 6, 7, 8, 9, 10] rfl
  refine vp_callSi (va_runV (C := R_R) (As := [.int tno, .int rea]) (rest := [.int (nI 0), .ref ao]) ⟨hx, hb, hml, hown, hts⟩ (c_R_annul_ok l dC dI ad cd w wr fl (nI 1) (-1) lw rot vb (nI 0) (nI 0) live row (-1) (nI 0) (nI 0) (nI 0) bts (nI 0) act (nI 0) (nI 0) tno rea (hok)) (cwV 2 hts (g_V t_469 t_470 t_471 t_1 t_472) rfl rfl rfl (by decide +kernel) ⟨by decide, by decide⟩) (xR_v hPc hKc 0 rfl rfl) rfl rfl hl.1 rfl (lv_room (Nat.le_of_ble_eq_true rfl)) d_L_annul_5 ⟨Nat.le_refl _, Nat.le_refl _⟩).run (fun r5 q5 => ?_)
  subst q5
  refine lv_i2l (v := (nI 0).toInt64) hx hb d_L_annul_8 rfl ?_
  refine va_last hx hb hK hP hD hS 0 0 rfl rfl (vp_in_nI (by omega) (by decide)) d_L_annul_9 (fun H locs hP hD hS => ?_)
  rw [nI_clamp (by omega)] at hP hD
  have hP : va_P (dC, dI) vwCl ((ao, .inl (co, 1, .inr (.inl (vp_updL fo 0 ((nI 0).toInt64))))) :: (xw ad cd w wr fl (nI 1) (-1) lw rot vb (nI 0) (nI 0) live row (-1) (nI 0) (nI 0) (nI 0) bts (nI 0) act (nI 0) (nI 0))) H := hP
  have hD : va_D (oA ao ad s.heap.size) ((ao, .inl (co, 1, .inr (.inl (vp_updL fo 0 ((nI 0).toInt64))))) :: (xw ad cd w wr fl (nI 1) (-1) lw rot vb (nI 0) (nI 0) live row (-1) (nI 0) (nI 0) (nI 0) bts (nI 0) act (nI 0) (nI 0))) := hD
  refine lv_goto (tgt := 21) hx hb d_L_annul_10 (by decide) ?_
  refine lv_iconst (v := nI 0) hx hb d_L_annul_21 (by decide) ?_
  exact W.iret (v := nI 0) hx hb hr (fun t ht hW => ⟨⟨nI 0, (), rfl, by first | rfl | trivial | omega, ⟨by rw [ht]; exact hP, va_K.moved hW.alike hK, hD⟩⟩, hS.F ht⟩) hS.2.2 d_L_annul_22
set_option maxHeartbeats 4000000 in
set_option maxRecDepth 100000 in
theorem cw_L_sync (l : Launch) (dC : Nat → ClassId) (dI : Nat → Nat → Nat) (ad cd : Nat → Nat) (ao co : Nat) (sz : Nat) (w wr fl : Nat → Int32) (pw sc : Int32) (lw rot vb : Nat → Int32) (rec tk : Int32) (live row : Nat → Int32) (cur ser dur wo : Int32) (bts : Nat → Int32) (us : Int32) (act : Nat → Int32) (rd rs : Int32) (fo : Nat → Int64)  : Met l y_L_sync w_L_sync ({ frames := 2, cells := 0, slots := 0, locals := 41 }) (xP (dC, dI) vwCl ((co, .long) :: xt cd) ((ao, .inl (co, 1, .inr (.inl fo))) :: (xw ad cd w wr fl (nI 1) (-1) lw rot vb (nI 0) (nI 0) live row (-1) (nI 0) (nI 0) (nI 0) bts (nI 0) act (nI 0) (nI 0))) sz [.ref (ad 0), .ref ao]) (va_Qi (fun r (u : Unit) => r = nI 0) (fun (u : Unit) (t : State) => xB (dC, dI) vwCl ((co, .long) :: xt cd) (oA ao ad sz) ((ao, .inl (co, 1, .inr (.inl (vp_updL fo 0 ((nI 1).toInt64))))) :: (xw ad cd w wr fl (nI 1) (-1) lw rot vb (nI 0) (nI 0) live row (-1) (nI 0) (nI 0) (nI 0) bts (nI 0) act (nI 0) (nI 0))) t) (oA ao ad sz)) 0 0 (oA ao ad sz) := by
  refine va_MetW (cc := b_L_sync) (maxL := 3) (ret := (some (.int))) (by decide) rfl ?_
  intro P e s m args below meth c0 s₁ B hml hv
  obtain ⟨rfl, hsz, hP, hK, hD0⟩ := hv
  have hx := B.exec
  have hb := B.bytes
  have hr := B.returns
  have hts := atoms_spec (ws := w_L_sync) B.pre
  have hown : s.vm.findClass R_L = some m.cls := findClass_of_methodNamed B.named
  have hlocks := B.notSynchronized
  subst hsz
  have hD := ow_D (sz := s.heap.size) hD0
  have hS : va_S (oA ao ad s.heap.size) s.heap s.heap [] := va_S.rf
  have hA : ∀ q : Nat, s.heap.size ≤ q → (oA ao ad s.heap.size) q := fun q h => Or.inr (Or.inr h)
  have hl := lv_entry ([.ref (ad 0), .ref ao]) (n := 3) (Nat.le_of_ble_eq_true rfl)
  rw [lg_entry_eq]
  generalize (lg_sl ([.ref (ad 0), .ref ao]) ++ List.replicate (3 - (lg_sl ([.ref (ad 0), .ref ao])).length) Slot.unset).toArray = ls at hl ⊢
  have hl : lv_has ls 3 [(0, .ref (ad 0)), (1, .ref ao)] := hl
  refine lv_aload_n hx hb d_L_sync_0 rfl (lv_at hl 1 rfl) ?_
  refine lv_iconst (v := nI 0) hx hb d_L_sync_1 (by decide) ?_
  refine lv_aload_n hx hb d_L_sync_2 rfl (lv_at hl 0 rfl) ?_
  have hPc := hP.sub (ws' := (xw ad cd w wr fl (nI 1) (-1) lw rot vb (nI 0) (nI 0) live row (-1) (nI 0) (nI 0) (nI 0) bts (nI 0) act (nI 0) (nI 0))) [1, 2, 3, 4, 5, 6, 7, 8, 9, 10, 11, 12, 13, 14, 15] rfl
  have hKc := hK.sub (tys' := (xt cd)) [1, 2, 3, 4, 5, 6, 7, 8, 9, 10] rfl
  refine vp_callSi (va_runV (C := R_R) (As := []) (rest := [.int (nI 0), .ref ao]) ⟨hx, hb, hml, hown, hts⟩ (c_R_sync_f l dC dI ad cd w wr fl (nI 1) (-1) lw rot vb (nI 0) (nI 0) live row (-1) (nI 0) (nI 0) (nI 0) bts (nI 0) act (nI 0) (nI 0)  ) (cwV 0 hts (g_V t_479 t_480 t_481 t_1 t_482) rfl rfl rfl (by decide +kernel) ⟨by decide, by decide⟩) (xR_v hPc hKc 0 rfl rfl) rfl rfl hl.1 rfl (lv_room (Nat.le_of_ble_eq_true rfl)) d_L_sync_3 ⟨Nat.le_refl _, Nat.le_refl _⟩).run (fun r3 q3 => ?_)
  subst q3
  refine lv_i2l (v := (nI 1).toInt64) hx hb d_L_sync_6 rfl ?_
  refine va_last hx hb hK hP hD hS 0 0 rfl rfl (vp_in_nI (by omega) (by decide)) d_L_sync_7 (fun H locs hP hD hS => ?_)
  rw [nI_clamp (by omega)] at hP hD
  have hP : va_P (dC, dI) vwCl ((ao, .inl (co, 1, .inr (.inl (vp_updL fo 0 ((nI 1).toInt64))))) :: (xw ad cd w wr fl (nI 1) (-1) lw rot vb (nI 0) (nI 0) live row (-1) (nI 0) (nI 0) (nI 0) bts (nI 0) act (nI 0) (nI 0))) H := hP
  have hD : va_D (oA ao ad s.heap.size) ((ao, .inl (co, 1, .inr (.inl (vp_updL fo 0 ((nI 1).toInt64))))) :: (xw ad cd w wr fl (nI 1) (-1) lw rot vb (nI 0) (nI 0) live row (-1) (nI 0) (nI 0) (nI 0) bts (nI 0) act (nI 0) (nI 0))) := hD
  refine lv_goto (tgt := 14) hx hb d_L_sync_8 (by decide) ?_
  refine lv_iconst (v := nI 0) hx hb d_L_sync_14 (by decide) ?_
  exact W.iret (v := nI 0) hx hb hr (fun t ht hW => ⟨⟨nI 0, (), rfl, by first | rfl | trivial | omega, ⟨by rw [ht]; exact hP, va_K.moved hW.alike hK, hD⟩⟩, hS.F ht⟩) hS.2.2 d_L_sync_15
set_option maxHeartbeats 4000000 in
set_option maxRecDepth 100000 in
theorem cw_L_dayTotal (l : Launch) (dC : Nat → ClassId) (dI : Nat → Nat → Nat) (ad cd : Nat → Nat) (ao co : Nat) (sz : Nat) (w wr fl : Nat → Int32) (pw sc : Int32) (lw rot vb : Nat → Int32) (rec tk : Int32) (live row : Nat → Int32) (cur ser dur wo : Int32) (bts : Nat → Int32) (us : Int32) (act : Nat → Int32) (rd rs : Int32) (fo : Nat → Int64) (da pr : Int32) : Met l y_L_dayTotal w_L_dayTotal ({ frames := 2, cells := 0, slots := 0, locals := 46 }) (xP (dC, dI) vwCl ((co, .long) :: xt cd) ((ao, .inl (co, 1, .inr (.inl fo))) :: (xw ad cd w wr fl (nI 1) (-1) lw rot vb (nI 0) (nI 0) live row (-1) (nI 0) (nI 0) (nI 0) bts (nI 0) act (nI 0) (nI 0))) sz [.ref (ad 0), .int da, .int pr, .ref ao]) (va_Qi (fun r (u : Unit) => r = nI 0) (fun (u : Unit) (t : State) => xB (dC, dI) vwCl ((co, .long) :: xt cd) (oA ao ad sz) ((ao, .inl (co, 1, .inr (.inl (vp_updL fo 0 0)))) :: (xw ad cd w wr fl (nI 1) (-1) lw rot vb (nI 0) (nI 0) live row (-1) (nI 0) (nI 0) (nI 0) bts (nI 0) act (nI 0) (nI 0))) t) (oA ao ad sz)) 0 0 (oA ao ad sz) := by
  refine va_MetW (cc := b_L_dayTotal) (maxL := 5) (ret := (some (.int))) (by decide) rfl ?_
  intro P e s m args below meth c0 s₁ B hml hv
  obtain ⟨rfl, hsz, hP, hK, hD0⟩ := hv
  have hx := B.exec
  have hb := B.bytes
  have hr := B.returns
  have hts := atoms_spec (ws := w_L_dayTotal) B.pre
  have hown : s.vm.findClass R_L = some m.cls := findClass_of_methodNamed B.named
  have hlocks := B.notSynchronized
  subst hsz
  have hD := ow_D (sz := s.heap.size) hD0
  have hS : va_S (oA ao ad s.heap.size) s.heap s.heap [] := va_S.rf
  have hA : ∀ q : Nat, s.heap.size ≤ q → (oA ao ad s.heap.size) q := fun q h => Or.inr (Or.inr h)
  have hl := lv_entry ([.ref (ad 0), .int da, .int pr, .ref ao]) (n := 5) (Nat.le_of_ble_eq_true rfl)
  rw [lg_entry_eq]
  generalize (lg_sl ([.ref (ad 0), .int da, .int pr, .ref ao]) ++ List.replicate (5 - (lg_sl ([.ref (ad 0), .int da, .int pr, .ref ao])).length) Slot.unset).toArray = ls at hl ⊢
  have hl : lv_has ls 5 [(0, .ref (ad 0)), (1, .int da), (2, .int pr), (3, .ref ao)] := hl
  refine lv_aload_n hx hb d_L_dayTotal_0 rfl (lv_at hl 3 rfl) ?_
  refine lv_iconst (v := nI 0) hx hb d_L_dayTotal_1 (by decide) ?_
  refine lv_aload_n hx hb d_L_dayTotal_2 rfl (lv_at hl 0 rfl) ?_
  refine lv_iload_n hx hb d_L_dayTotal_3 rfl (lv_at hl 1 rfl) ?_
  refine lv_iload_n hx hb d_L_dayTotal_4 rfl (lv_at hl 2 rfl) ?_
  have hPc := hP.sub (ws' := (xw ad cd w wr fl (nI 1) (-1) lw rot vb (nI 0) (nI 0) live row (-1) (nI 0) (nI 0) (nI 0) bts (nI 0) act (nI 0) (nI 0))) [1, 2, 3, 4, 5, 6, 7, 8, 9, 10, 11, 12, 13, 14, 15] rfl
  have hKc := hK.sub (tys' := (xt cd)) [1, 2, 3, 4, 5, 6, 7, 8, 9, 10] rfl
  refine vp_callSl (va_runV (C := R_R) (As := [.int da, .int pr]) (rest := [.int (nI 0), .ref ao]) ⟨hx, hb, hml, hown, hts⟩ (c_R_dayTotal_f l dC dI ad cd w wr fl (nI 1) (-1) lw rot vb (nI 0) (nI 0) live row (-1) (nI 0) (nI 0) (nI 0) bts (nI 0) act (nI 0) (nI 0) da pr ) (cwV 2 hts (g_V t_550 t_551 t_552 t_1 t_553) rfl rfl rfl (by decide +kernel) ⟨by decide, by decide⟩) (xR_v hPc hKc 0 rfl rfl) rfl rfl hl.1 rfl (lv_room (Nat.le_of_ble_eq_true rfl)) d_L_dayTotal_5 ⟨Nat.le_refl _, Nat.le_refl _⟩).run (fun r5 q5 => ?_)
  subst q5
  refine va_last hx hb hK hP hD hS 0 0 rfl rfl (vp_in_nI (by omega) (by decide)) d_L_dayTotal_8 (fun H locs hP hD hS => ?_)
  rw [nI_clamp (by omega)] at hP hD
  have hP : va_P (dC, dI) vwCl ((ao, .inl (co, 1, .inr (.inl (vp_updL fo 0 0)))) :: (xw ad cd w wr fl (nI 1) (-1) lw rot vb (nI 0) (nI 0) live row (-1) (nI 0) (nI 0) (nI 0) bts (nI 0) act (nI 0) (nI 0))) H := hP
  have hD : va_D (oA ao ad s.heap.size) ((ao, .inl (co, 1, .inr (.inl (vp_updL fo 0 0)))) :: (xw ad cd w wr fl (nI 1) (-1) lw rot vb (nI 0) (nI 0) live row (-1) (nI 0) (nI 0) (nI 0) bts (nI 0) act (nI 0) (nI 0))) := hD
  refine lv_goto (tgt := 16) hx hb d_L_dayTotal_9 (by decide) ?_
  refine lv_iconst (v := nI 0) hx hb d_L_dayTotal_16 (by decide) ?_
  exact W.iret (v := nI 0) hx hb hr (fun t ht hW => ⟨⟨nI 0, (), rfl, by first | rfl | trivial | omega, ⟨by rw [ht]; exact hP, va_K.moved hW.alike hK, hD⟩⟩, hS.F ht⟩) hS.2.2 d_L_dayTotal_17
set_option maxHeartbeats 4000000 in
set_option maxRecDepth 100000 in
theorem cw_L_rangeTotal (l : Launch) (dC : Nat → ClassId) (dI : Nat → Nat → Nat) (ad cd : Nat → Nat) (ao co : Nat) (sz : Nat) (w wr fl : Nat → Int32) (pw sc : Int32) (lw rot vb : Nat → Int32) (rec tk : Int32) (live row : Nat → Int32) (cur ser dur wo : Int32) (bts : Nat → Int32) (us : Int32) (act : Nat → Int32) (rd rs : Int32) (fo : Nat → Int64) (fr to : Int32) : Met l y_L_rangeTotal w_L_rangeTotal ({ frames := 2, cells := 0, slots := 0, locals := 46 }) (xP (dC, dI) vwCl ((co, .long) :: xt cd) ((ao, .inl (co, 1, .inr (.inl fo))) :: (xw ad cd w wr fl (nI 1) (-1) lw rot vb (nI 0) (nI 0) live row (-1) (nI 0) (nI 0) (nI 0) bts (nI 0) act (nI 0) (nI 0))) sz [.ref (ad 0), .int fr, .int to, .ref ao]) (va_Qi (fun r (u : Unit) => r = nI 0) (fun (u : Unit) (t : State) => xB (dC, dI) vwCl ((co, .long) :: xt cd) (oA ao ad sz) ((ao, .inl (co, 1, .inr (.inl (vp_updL fo 0 0)))) :: (xw ad cd w wr fl (nI 1) (-1) lw rot vb (nI 0) (nI 0) live row (-1) (nI 0) (nI 0) (nI 0) bts (nI 0) act (nI 0) (nI 0))) t) (oA ao ad sz)) 0 0 (oA ao ad sz) := by
  refine va_MetW (cc := b_L_rangeTotal) (maxL := 5) (ret := (some (.int))) (by decide) rfl ?_
  intro P e s m args below meth c0 s₁ B hml hv
  obtain ⟨rfl, hsz, hP, hK, hD0⟩ := hv
  have hx := B.exec
  have hb := B.bytes
  have hr := B.returns
  have hts := atoms_spec (ws := w_L_rangeTotal) B.pre
  have hown : s.vm.findClass R_L = some m.cls := findClass_of_methodNamed B.named
  have hlocks := B.notSynchronized
  subst hsz
  have hD := ow_D (sz := s.heap.size) hD0
  have hS : va_S (oA ao ad s.heap.size) s.heap s.heap [] := va_S.rf
  have hA : ∀ q : Nat, s.heap.size ≤ q → (oA ao ad s.heap.size) q := fun q h => Or.inr (Or.inr h)
  have hl := lv_entry ([.ref (ad 0), .int fr, .int to, .ref ao]) (n := 5) (Nat.le_of_ble_eq_true rfl)
  rw [lg_entry_eq]
  generalize (lg_sl ([.ref (ad 0), .int fr, .int to, .ref ao]) ++ List.replicate (5 - (lg_sl ([.ref (ad 0), .int fr, .int to, .ref ao])).length) Slot.unset).toArray = ls at hl ⊢
  have hl : lv_has ls 5 [(0, .ref (ad 0)), (1, .int fr), (2, .int to), (3, .ref ao)] := hl
  refine lv_aload_n hx hb d_L_rangeTotal_0 rfl (lv_at hl 3 rfl) ?_
  refine lv_iconst (v := nI 0) hx hb d_L_rangeTotal_1 (by decide) ?_
  refine lv_aload_n hx hb d_L_rangeTotal_2 rfl (lv_at hl 0 rfl) ?_
  refine lv_iload_n hx hb d_L_rangeTotal_3 rfl (lv_at hl 1 rfl) ?_
  refine lv_iload_n hx hb d_L_rangeTotal_4 rfl (lv_at hl 2 rfl) ?_
  have hPc := hP.sub (ws' := (xw ad cd w wr fl (nI 1) (-1) lw rot vb (nI 0) (nI 0) live row (-1) (nI 0) (nI 0) (nI 0) bts (nI 0) act (nI 0) (nI 0))) [1, 2, 3, 4, 5, 6, 7, 8, 9, 10, 11, 12, 13, 14, 15] rfl
  have hKc := hK.sub (tys' := (xt cd)) [1, 2, 3, 4, 5, 6, 7, 8, 9, 10] rfl
  refine vp_callSl (va_runV (C := R_R) (As := [.int fr, .int to]) (rest := [.int (nI 0), .ref ao]) ⟨hx, hb, hml, hown, hts⟩ (c_R_rangeTotal_f l dC dI ad cd w wr fl (nI 1) (-1) lw rot vb (nI 0) (nI 0) live row (-1) (nI 0) (nI 0) (nI 0) bts (nI 0) act (nI 0) (nI 0) fr to ) (cwV 2 hts (g_V t_563 t_564 t_565 t_1 t_566) rfl rfl rfl (by decide +kernel) ⟨by decide, by decide⟩) (xR_v hPc hKc 0 rfl rfl) rfl rfl hl.1 rfl (lv_room (Nat.le_of_ble_eq_true rfl)) d_L_rangeTotal_5 ⟨Nat.le_refl _, Nat.le_refl _⟩).run (fun r5 q5 => ?_)
  subst q5
  refine va_last hx hb hK hP hD hS 0 0 rfl rfl (vp_in_nI (by omega) (by decide)) d_L_rangeTotal_8 (fun H locs hP hD hS => ?_)
  rw [nI_clamp (by omega)] at hP hD
  have hP : va_P (dC, dI) vwCl ((ao, .inl (co, 1, .inr (.inl (vp_updL fo 0 0)))) :: (xw ad cd w wr fl (nI 1) (-1) lw rot vb (nI 0) (nI 0) live row (-1) (nI 0) (nI 0) (nI 0) bts (nI 0) act (nI 0) (nI 0))) H := hP
  have hD : va_D (oA ao ad s.heap.size) ((ao, .inl (co, 1, .inr (.inl (vp_updL fo 0 0)))) :: (xw ad cd w wr fl (nI 1) (-1) lw rot vb (nI 0) (nI 0) live row (-1) (nI 0) (nI 0) (nI 0) bts (nI 0) act (nI 0) (nI 0))) := hD
  refine lv_goto (tgt := 16) hx hb d_L_rangeTotal_9 (by decide) ?_
  refine lv_iconst (v := nI 0) hx hb d_L_rangeTotal_16 (by decide) ?_
  exact W.iret (v := nI 0) hx hb hr (fun t ht hW => ⟨⟨nI 0, (), rfl, by first | rfl | trivial | omega, ⟨by rw [ht]; exact hP, va_K.moved hW.alike hK, hD⟩⟩, hS.F ht⟩) hS.2.2 d_L_rangeTotal_17
set_option maxHeartbeats 4000000 in
set_option maxRecDepth 100000 in
theorem cw_L_find (l : Launch) (dC : Nat → ClassId) (dI : Nat → Nat → Nat) (ad cd : Nat → Nat) (ao co : Nat) (sz : Nat) (w wr fl : Nat → Int32) (pw sc : Int32) (lw rot vb : Nat → Int32) (rec tk : Int32) (live row : Nat → Int32) (cur ser dur wo : Int32) (bts : Nat → Int32) (us : Int32) (act : Nat → Int32) (rd rs : Int32) (fo : Nat → Int64) (pl fr : Int32) : Met l y_L_find w_L_find ({ frames := 2, cells := 0, slots := 0, locals := 43 }) (xP (dC, dI) vwCl ((co, .long) :: xt cd) ((ao, .inl (co, 1, .inr (.inl fo))) :: (xw ad cd w wr fl (nI 1) (-1) lw rot vb (nI 0) (nI 0) live row (-1) (nI 0) (nI 0) (nI 0) bts (nI 0) act (nI 0) (nI 0))) sz [.ref (ad 0), .int pl, .int fr, .ref ao]) (va_Qi (fun r (u : Unit) => r = nI 0) (fun (u : Unit) (t : State) => xB (dC, dI) vwCl ((co, .long) :: xt cd) (oA ao ad sz) ((ao, .inl (co, 1, .inr (.inl (vp_updL fo 0 ((nI 0).toInt64))))) :: (xw ad cd w wr fl (nI 1) (-1) lw rot vb (nI 0) (nI 0) live row (-1) (nI 0) (nI 0) (nI 0) bts (nI 0) act (nI 0) (nI 0))) t) (oA ao ad sz)) 0 0 (oA ao ad sz) := by
  refine va_MetW (cc := b_L_find) (maxL := 5) (ret := (some (.int))) (by decide) rfl ?_
  intro P e s m args below meth c0 s₁ B hml hv
  obtain ⟨rfl, hsz, hP, hK, hD0⟩ := hv
  have hx := B.exec
  have hb := B.bytes
  have hr := B.returns
  have hts := atoms_spec (ws := w_L_find) B.pre
  have hown : s.vm.findClass R_L = some m.cls := findClass_of_methodNamed B.named
  have hlocks := B.notSynchronized
  subst hsz
  have hD := ow_D (sz := s.heap.size) hD0
  have hS : va_S (oA ao ad s.heap.size) s.heap s.heap [] := va_S.rf
  have hA : ∀ q : Nat, s.heap.size ≤ q → (oA ao ad s.heap.size) q := fun q h => Or.inr (Or.inr h)
  have hl := lv_entry ([.ref (ad 0), .int pl, .int fr, .ref ao]) (n := 5) (Nat.le_of_ble_eq_true rfl)
  rw [lg_entry_eq]
  generalize (lg_sl ([.ref (ad 0), .int pl, .int fr, .ref ao]) ++ List.replicate (5 - (lg_sl ([.ref (ad 0), .int pl, .int fr, .ref ao])).length) Slot.unset).toArray = ls at hl ⊢
  have hl : lv_has ls 5 [(0, .ref (ad 0)), (1, .int pl), (2, .int fr), (3, .ref ao)] := hl
  refine lv_aload_n hx hb d_L_find_0 rfl (lv_at hl 3 rfl) ?_
  refine lv_iconst (v := nI 0) hx hb d_L_find_1 (by decide) ?_
  refine lv_aload_n hx hb d_L_find_2 rfl (lv_at hl 0 rfl) ?_
  refine lv_iload_n hx hb d_L_find_3 rfl (lv_at hl 1 rfl) ?_
  refine lv_iload_n hx hb d_L_find_4 rfl (lv_at hl 2 rfl) ?_
  have hPc := hP.sub (ws' := (xw ad cd w wr fl (nI 1) (-1) lw rot vb (nI 0) (nI 0) live row (-1) (nI 0) (nI 0) (nI 0) bts (nI 0) act (nI 0) (nI 0))) [1, 2, 3, 4, 5, 6, 7, 8, 9, 10, 11, 12, 13, 14, 15] rfl
  have hKc := hK.sub (tys' := (xt cd)) [1, 2, 3, 4, 5, 6, 7, 8, 9, 10] rfl
  refine vp_callSi (va_runV (C := R_R) (As := [.int pl, .int fr]) (rest := [.int (nI 0), .ref ao]) ⟨hx, hb, hml, hown, hts⟩ (c_R_find_f l dC dI ad cd w wr fl (nI 1) (-1) lw rot vb (nI 0) (nI 0) live row (-1) (nI 0) (nI 0) (nI 0) bts (nI 0) act (nI 0) (nI 0) pl fr ) (cwV 2 hts (g_V t_576 t_577 t_578 t_1 t_579) rfl rfl rfl (by decide +kernel) ⟨by decide, by decide⟩) (xR_v hPc hKc 0 rfl rfl) rfl rfl hl.1 rfl (lv_room (Nat.le_of_ble_eq_true rfl)) d_L_find_5 ⟨Nat.le_refl _, Nat.le_refl _⟩).run (fun r5 q5 => ?_)
  subst q5
  refine lv_i2l (v := (nI 0).toInt64) hx hb d_L_find_8 rfl ?_
  refine va_last hx hb hK hP hD hS 0 0 rfl rfl (vp_in_nI (by omega) (by decide)) d_L_find_9 (fun H locs hP hD hS => ?_)
  rw [nI_clamp (by omega)] at hP hD
  have hP : va_P (dC, dI) vwCl ((ao, .inl (co, 1, .inr (.inl (vp_updL fo 0 ((nI 0).toInt64))))) :: (xw ad cd w wr fl (nI 1) (-1) lw rot vb (nI 0) (nI 0) live row (-1) (nI 0) (nI 0) (nI 0) bts (nI 0) act (nI 0) (nI 0))) H := hP
  have hD : va_D (oA ao ad s.heap.size) ((ao, .inl (co, 1, .inr (.inl (vp_updL fo 0 ((nI 0).toInt64))))) :: (xw ad cd w wr fl (nI 1) (-1) lw rot vb (nI 0) (nI 0) live row (-1) (nI 0) (nI 0) (nI 0) bts (nI 0) act (nI 0) (nI 0))) := hD
  refine lv_goto (tgt := 17) hx hb d_L_find_10 (by decide) ?_
  refine lv_iconst (v := nI 0) hx hb d_L_find_17 (by decide) ?_
  exact W.iret (v := nI 0) hx hb hr (fun t ht hW => ⟨⟨nI 0, (), rfl, by first | rfl | trivial | omega, ⟨by rw [ht]; exact hP, va_K.moved hW.alike hK, hD⟩⟩, hS.F ht⟩) hS.2.2 d_L_find_18
set_option maxHeartbeats 4000000 in
set_option maxRecDepth 100000 in
theorem cw_L_audit (l : Launch) (dC : Nat → ClassId) (dI : Nat → Nat → Nat) (ad cd : Nat → Nat) (ao co : Nat) (sz : Nat) (w wr fl : Nat → Int32) (pw sc : Int32) (lw rot vb : Nat → Int32) (rec tk : Int32) (live row : Nat → Int32) (cur ser dur wo : Int32) (bts : Nat → Int32) (us : Int32) (act : Nat → Int32) (rd rs : Int32) (fo : Nat → Int64) (fr to : Int32) : Met l y_L_audit w_L_audit ({ frames := 2, cells := 0, slots := 0, locals := 44 }) (xP (dC, dI) vwCl ((co, .long) :: xt cd) ((ao, .inl (co, 1, .inr (.inl fo))) :: (xw ad cd w wr fl (nI 1) (-1) lw rot vb (nI 0) (nI 0) live row (-1) (nI 0) (nI 0) (nI 0) bts (nI 0) act (nI 0) (nI 0))) sz [.ref (ad 0), .int fr, .int to, .ref ao]) (va_Qi (fun r (u : Unit) => r = nI 0) (fun (u : Unit) (t : State) => xB (dC, dI) vwCl ((co, .long) :: xt cd) (oA ao ad sz) ((ao, .inl (co, 1, .inr (.inl (vp_updL fo 0 ((nI 0).toInt64))))) :: (xw ad cd w wr fl (nI 1) (-1) lw rot vb (nI 0) (nI 0) live row (-1) (nI 0) (nI 0) (nI 0) bts (nI 0) act (nI 0) (nI 0))) t) (oA ao ad sz)) 0 0 (oA ao ad sz) := by
  refine va_MetW (cc := b_L_audit) (maxL := 5) (ret := (some (.int))) (by decide) rfl ?_
  intro P e s m args below meth c0 s₁ B hml hv
  obtain ⟨rfl, hsz, hP, hK, hD0⟩ := hv
  have hx := B.exec
  have hb := B.bytes
  have hr := B.returns
  have hts := atoms_spec (ws := w_L_audit) B.pre
  have hown : s.vm.findClass R_L = some m.cls := findClass_of_methodNamed B.named
  have hlocks := B.notSynchronized
  subst hsz
  have hD := ow_D (sz := s.heap.size) hD0
  have hS : va_S (oA ao ad s.heap.size) s.heap s.heap [] := va_S.rf
  have hA : ∀ q : Nat, s.heap.size ≤ q → (oA ao ad s.heap.size) q := fun q h => Or.inr (Or.inr h)
  have hl := lv_entry ([.ref (ad 0), .int fr, .int to, .ref ao]) (n := 5) (Nat.le_of_ble_eq_true rfl)
  rw [lg_entry_eq]
  generalize (lg_sl ([.ref (ad 0), .int fr, .int to, .ref ao]) ++ List.replicate (5 - (lg_sl ([.ref (ad 0), .int fr, .int to, .ref ao])).length) Slot.unset).toArray = ls at hl ⊢
  have hl : lv_has ls 5 [(0, .ref (ad 0)), (1, .int fr), (2, .int to), (3, .ref ao)] := hl
  refine lv_aload_n hx hb d_L_audit_0 rfl (lv_at hl 3 rfl) ?_
  refine lv_iconst (v := nI 0) hx hb d_L_audit_1 (by decide) ?_
  refine lv_aload_n hx hb d_L_audit_2 rfl (lv_at hl 0 rfl) ?_
  refine lv_iload_n hx hb d_L_audit_3 rfl (lv_at hl 1 rfl) ?_
  refine lv_iload_n hx hb d_L_audit_4 rfl (lv_at hl 2 rfl) ?_
  have hPc := hP.sub (ws' := (xw ad cd w wr fl (nI 1) (-1) lw rot vb (nI 0) (nI 0) live row (-1) (nI 0) (nI 0) (nI 0) bts (nI 0) act (nI 0) (nI 0))) [1, 2, 3, 4, 5, 6, 7, 8, 9, 10, 11, 12, 13, 14, 15] rfl
  have hKc := hK.sub (tys' := (xt cd)) [1, 2, 3, 4, 5, 6, 7, 8, 9, 10] rfl
  refine vp_callSi (va_runV (C := R_R) (As := [.int fr, .int to]) (rest := [.int (nI 0), .ref ao]) ⟨hx, hb, hml, hown, hts⟩ (c_R_audit_f l dC dI ad cd w wr fl (nI 1) (-1) lw rot vb (nI 0) (nI 0) live row (-1) (nI 0) (nI 0) (nI 0) bts (nI 0) act (nI 0) (nI 0) fr to ) (cwV 2 hts (g_V t_583 t_584 t_585 t_1 t_586) rfl rfl rfl (by decide +kernel) ⟨by decide, by decide⟩) (xR_v hPc hKc 0 rfl rfl) rfl rfl hl.1 rfl (lv_room (Nat.le_of_ble_eq_true rfl)) d_L_audit_5 ⟨Nat.le_refl _, Nat.le_refl _⟩).run (fun r5 q5 => ?_)
  subst q5
  refine lv_i2l (v := (nI 0).toInt64) hx hb d_L_audit_8 rfl ?_
  refine va_last hx hb hK hP hD hS 0 0 rfl rfl (vp_in_nI (by omega) (by decide)) d_L_audit_9 (fun H locs hP hD hS => ?_)
  rw [nI_clamp (by omega)] at hP hD
  have hP : va_P (dC, dI) vwCl ((ao, .inl (co, 1, .inr (.inl (vp_updL fo 0 ((nI 0).toInt64))))) :: (xw ad cd w wr fl (nI 1) (-1) lw rot vb (nI 0) (nI 0) live row (-1) (nI 0) (nI 0) (nI 0) bts (nI 0) act (nI 0) (nI 0))) H := hP
  have hD : va_D (oA ao ad s.heap.size) ((ao, .inl (co, 1, .inr (.inl (vp_updL fo 0 ((nI 0).toInt64))))) :: (xw ad cd w wr fl (nI 1) (-1) lw rot vb (nI 0) (nI 0) live row (-1) (nI 0) (nI 0) (nI 0) bts (nI 0) act (nI 0) (nI 0))) := hD
  refine lv_goto (tgt := 17) hx hb d_L_audit_10 (by decide) ?_
  refine lv_iconst (v := nI 0) hx hb d_L_audit_17 (by decide) ?_
  exact W.iret (v := nI 0) hx hb hr (fun t ht hW => ⟨⟨nI 0, (), rfl, by first | rfl | trivial | omega, ⟨by rw [ht]; exact hP, va_K.moved hW.alike hK, hD⟩⟩, hS.F ht⟩) hS.2.2 d_L_audit_18
set_option maxHeartbeats 4000000 in
set_option maxRecDepth 100000 in
theorem cw_L_exportByte (l : Launch) (dC : Nat → ClassId) (dI : Nat → Nat → Nat) (ad cd : Nat → Nat) (ao co : Nat) (sz : Nat) (w wr fl : Nat → Int32) (pw sc : Int32) (lw rot vb : Nat → Int32) (rec tk : Int32) (live row : Nat → Int32) (cur ser dur wo : Int32) (bts : Nat → Int32) (us : Int32) (act : Nat → Int32) (rd rs : Int32) (fo : Nat → Int64) (fr to ix : Int32) : Met l y_L_exportByte w_L_exportByte ({ frames := 2, cells := 0, slots := 0, locals := 46 }) (xP (dC, dI) vwCl ((co, .long) :: xt cd) ((ao, .inl (co, 1, .inr (.inl fo))) :: (xw ad cd w wr fl (nI 1) (-1) lw rot vb (nI 0) (nI 0) live row (-1) (nI 0) (nI 0) (nI 0) bts (nI 0) act (nI 0) (nI 0))) sz [.ref (ad 0), .int fr, .int to, .int ix, .ref ao]) (va_Qi (fun r (u : Unit) => r = nI 0) (fun (u : Unit) (t : State) => xB (dC, dI) vwCl ((co, .long) :: xt cd) (oA ao ad sz) ((ao, .inl (co, 1, .inr (.inl (vp_updL fo 0 ((-1).toInt64))))) :: (xw ad cd w wr fl (nI 1) (-1) lw rot vb (nI 0) (nI 0) live row (-1) (nI 0) (nI 0) (nI 0) bts (nI 0) act (nI 0) (nI 0))) t) (oA ao ad sz)) 0 0 (oA ao ad sz) := by
  refine va_MetW (cc := b_L_exportByte) (maxL := 6) (ret := (some (.int))) (by decide) rfl ?_
  intro P e s m args below meth c0 s₁ B hml hv
  obtain ⟨rfl, hsz, hP, hK, hD0⟩ := hv
  have hx := B.exec
  have hb := B.bytes
  have hr := B.returns
  have hts := atoms_spec (ws := w_L_exportByte) B.pre
  have hown : s.vm.findClass R_L = some m.cls := findClass_of_methodNamed B.named
  have hlocks := B.notSynchronized
  subst hsz
  have hD := ow_D (sz := s.heap.size) hD0
  have hS : va_S (oA ao ad s.heap.size) s.heap s.heap [] := va_S.rf
  have hA : ∀ q : Nat, s.heap.size ≤ q → (oA ao ad s.heap.size) q := fun q h => Or.inr (Or.inr h)
  have hl := lv_entry ([.ref (ad 0), .int fr, .int to, .int ix, .ref ao]) (n := 6) (Nat.le_of_ble_eq_true rfl)
  rw [lg_entry_eq]
  generalize (lg_sl ([.ref (ad 0), .int fr, .int to, .int ix, .ref ao]) ++ List.replicate (6 - (lg_sl ([.ref (ad 0), .int fr, .int to, .int ix, .ref ao])).length) Slot.unset).toArray = ls at hl ⊢
  have hl : lv_has ls 6 [(0, .ref (ad 0)), (1, .int fr), (2, .int to), (3, .int ix), (4, .ref ao)] := hl
  refine lv_aload hx hb d_L_exportByte_0 (lv_at hl 4 rfl) ?_
  refine lv_iconst (v := nI 0) hx hb d_L_exportByte_2 (by decide) ?_
  refine lv_aload_n hx hb d_L_exportByte_3 rfl (lv_at hl 0 rfl) ?_
  refine lv_iload_n hx hb d_L_exportByte_4 rfl (lv_at hl 1 rfl) ?_
  refine lv_iload_n hx hb d_L_exportByte_5 rfl (lv_at hl 2 rfl) ?_
  refine lv_iload_n hx hb d_L_exportByte_6 rfl (lv_at hl 3 rfl) ?_
  have hPc := hP.sub (ws' := (xw ad cd w wr fl (nI 1) (-1) lw rot vb (nI 0) (nI 0) live row (-1) (nI 0) (nI 0) (nI 0) bts (nI 0) act (nI 0) (nI 0))) [1, 2, 3, 4, 5, 6, 7, 8, 9, 10, 11, 12, 13, 14, 15] rfl
  have hKc := hK.sub (tys' := (xt cd)) [1, 2, 3, 4, 5, 6, 7, 8, 9, 10] rfl
  refine vp_callSi (va_runV (C := R_R) (As := [.int fr, .int to, .int ix]) (rest := [.int (nI 0), .ref ao]) ⟨hx, hb, hml, hown, hts⟩ (c_R_exportByte_f l dC dI ad cd w wr fl (nI 1) (-1) lw rot vb (nI 0) (nI 0) live row (-1) (nI 0) (nI 0) (nI 0) bts (nI 0) act (nI 0) (nI 0) fr to ix ) (cwV 3 hts (g_V t_607 t_608 t_609 t_1 t_610) rfl rfl rfl (by decide +kernel) ⟨by decide, by decide⟩) (xR_v hPc hKc 0 rfl rfl) rfl rfl hl.1 rfl (lv_room (Nat.le_of_ble_eq_true rfl)) d_L_exportByte_7 ⟨Nat.le_refl _, Nat.le_refl _⟩).run (fun r7 q7 => ?_)
  subst q7
  refine lv_i2l (v := (-1).toInt64) hx hb d_L_exportByte_10 rfl ?_
  refine va_last hx hb hK hP hD hS 0 0 rfl rfl (vp_in_nI (by omega) (by decide)) d_L_exportByte_11 (fun H locs hP hD hS => ?_)
  rw [nI_clamp (by omega)] at hP hD
  have hP : va_P (dC, dI) vwCl ((ao, .inl (co, 1, .inr (.inl (vp_updL fo 0 ((-1).toInt64))))) :: (xw ad cd w wr fl (nI 1) (-1) lw rot vb (nI 0) (nI 0) live row (-1) (nI 0) (nI 0) (nI 0) bts (nI 0) act (nI 0) (nI 0))) H := hP
  have hD : va_D (oA ao ad s.heap.size) ((ao, .inl (co, 1, .inr (.inl (vp_updL fo 0 ((-1).toInt64))))) :: (xw ad cd w wr fl (nI 1) (-1) lw rot vb (nI 0) (nI 0) live row (-1) (nI 0) (nI 0) (nI 0) bts (nI 0) act (nI 0) (nI 0))) := hD
  refine lv_goto (tgt := 19) hx hb d_L_exportByte_12 (by decide) ?_
  refine lv_iconst (v := nI 0) hx hb d_L_exportByte_19 (by decide) ?_
  exact W.iret (v := nI 0) hx hb hr (fun t ht hW => ⟨⟨nI 0, (), rfl, by first | rfl | trivial | omega, ⟨by rw [ht]; exact hP, va_K.moved hW.alike hK, hD⟩⟩, hS.F ht⟩) hS.2.2 d_L_exportByte_20
set_option maxHeartbeats 4000000 in
set_option maxRecDepth 100000 in
theorem cw_L_wearOf (l : Launch) (dC : Nat → ClassId) (dI : Nat → Nat → Nat) (ad cd : Nat → Nat) (ao co : Nat) (sz : Nat) (w wr fl : Nat → Int32) (pw sc : Int32) (lw rot vb : Nat → Int32) (rec tk : Int32) (live row : Nat → Int32) (cur ser dur wo : Int32) (bts : Nat → Int32) (us : Int32) (act : Nat → Int32) (rd rs : Int32) (fo : Nat → Int64) (j : Nat) (hj : j < 8) : Met l y_L_wearOf w_L_wearOf ({ frames := 2, cells := 0, slots := 0, locals := 43 }) (xP (dC, dI) vwCl ((co, .long) :: xt cd) ((ao, .inl (co, 1, .inr (.inl fo))) :: (xw ad cd w wr fl (nI 1) (-1) lw rot vb (nI 0) (nI 0) live row (-1) (nI 0) (nI 0) (nI 0) bts (nI 0) act (nI 0) (nI 0))) sz [.ref (ad 0), .int (nI j), .ref ao]) (va_Qi (fun r (u : Unit) => r = nI 0) (fun (u : Unit) (t : State) => xB (dC, dI) vwCl ((co, .long) :: xt cd) (oA ao ad sz) ((ao, .inl (co, 1, .inr (.inl (vp_updL fo 0 ((wr j).toInt64))))) :: (xw ad cd w wr fl (nI 1) (-1) lw rot vb (nI 0) (nI 0) live row (-1) (nI 0) (nI 0) (nI 0) bts (nI 0) act (nI 0) (nI 0))) t) (oA ao ad sz)) 0 0 (oA ao ad sz) := by
  refine va_MetW (cc := b_L_wearOf) (maxL := 4) (ret := (some (.int))) (by decide) rfl ?_
  intro P e s m args below meth c0 s₁ B hml hv
  obtain ⟨rfl, hsz, hP, hK, hD0⟩ := hv
  have hx := B.exec
  have hb := B.bytes
  have hr := B.returns
  have hts := atoms_spec (ws := w_L_wearOf) B.pre
  have hown : s.vm.findClass R_L = some m.cls := findClass_of_methodNamed B.named
  have hlocks := B.notSynchronized
  subst hsz
  have hD := ow_D (sz := s.heap.size) hD0
  have hS : va_S (oA ao ad s.heap.size) s.heap s.heap [] := va_S.rf
  have hA : ∀ q : Nat, s.heap.size ≤ q → (oA ao ad s.heap.size) q := fun q h => Or.inr (Or.inr h)
  have hl := lv_entry ([.ref (ad 0), .int (nI j), .ref ao]) (n := 4) (Nat.le_of_ble_eq_true rfl)
  rw [lg_entry_eq]
  generalize (lg_sl ([.ref (ad 0), .int (nI j), .ref ao]) ++ List.replicate (4 - (lg_sl ([.ref (ad 0), .int (nI j), .ref ao])).length) Slot.unset).toArray = ls at hl ⊢
  have hl : lv_has ls 4 [(0, .ref (ad 0)), (1, .int (nI j)), (2, .ref ao)] := hl
  refine lv_aload_n hx hb d_L_wearOf_0 rfl (lv_at hl 2 rfl) ?_
  refine lv_iconst (v := nI 0) hx hb d_L_wearOf_1 (by decide) ?_
  refine lv_aload_n hx hb d_L_wearOf_2 rfl (lv_at hl 0 rfl) ?_
  refine lv_iload_n hx hb d_L_wearOf_3 rfl (lv_at hl 1 rfl) ?_
  have hPc := hP.sub (ws' := (xw ad cd w wr fl (nI 1) (-1) lw rot vb (nI 0) (nI 0) live row (-1) (nI 0) (nI 0) (nI 0) bts (nI 0) act (nI 0) (nI 0))) [1, 2, 3, 4, 5, 6, 7, 8, 9, 10, 11, 12, 13, 14, 15] rfl
  have hKc := hK.sub (tys' := (xt cd)) [1, 2, 3, 4, 5, 6, 7, 8, 9, 10] rfl
  refine vp_callSi (va_runV (C := R_R) (As := [.int (nI j)]) (rest := [.int (nI 0), .ref ao]) ⟨hx, hb, hml, hown, hts⟩ (c_R_wearOf_ok l dC dI ad cd w wr fl (nI 1) (-1) lw rot vb (nI 0) (nI 0) live row (-1) (nI 0) (nI 0) (nI 0) bts (nI 0) act (nI 0) (nI 0) j (hj)) (cwV 1 hts (g_V t_661 t_662 t_663 t_1 t_664) rfl rfl rfl (by decide +kernel) ⟨by decide, by decide⟩) (xR_v hPc hKc 0 rfl rfl) rfl rfl hl.1 rfl (lv_room (Nat.le_of_ble_eq_true rfl)) d_L_wearOf_4 ⟨Nat.le_refl _, Nat.le_refl _⟩).run (fun r4 q4 => ?_)
  subst q4
  refine lv_i2l (v := (wr j).toInt64) hx hb d_L_wearOf_7 rfl ?_
  refine va_last hx hb hK hP hD hS 0 0 rfl rfl (vp_in_nI (by omega) (by decide)) d_L_wearOf_8 (fun H locs hP hD hS => ?_)
  rw [nI_clamp (by omega)] at hP hD
  have hP : va_P (dC, dI) vwCl ((ao, .inl (co, 1, .inr (.inl (vp_updL fo 0 ((wr j).toInt64))))) :: (xw ad cd w wr fl (nI 1) (-1) lw rot vb (nI 0) (nI 0) live row (-1) (nI 0) (nI 0) (nI 0) bts (nI 0) act (nI 0) (nI 0))) H := hP
  have hD : va_D (oA ao ad s.heap.size) ((ao, .inl (co, 1, .inr (.inl (vp_updL fo 0 ((wr j).toInt64))))) :: (xw ad cd w wr fl (nI 1) (-1) lw rot vb (nI 0) (nI 0) live row (-1) (nI 0) (nI 0) (nI 0) bts (nI 0) act (nI 0) (nI 0))) := hD
  refine lv_goto (tgt := 15) hx hb d_L_wearOf_9 (by decide) ?_
  refine lv_iconst (v := nI 0) hx hb d_L_wearOf_15 (by decide) ?_
  exact W.iret (v := nI 0) hx hb hr (fun t ht hW => ⟨⟨nI 0, (), rfl, by first | rfl | trivial | omega, ⟨by rw [ht]; exact hP, va_K.moved hW.alike hK, hD⟩⟩, hS.F ht⟩) hS.2.2 d_L_wearOf_16
set_option maxHeartbeats 4000000 in
set_option maxRecDepth 100000 in
theorem cw_L_word (l : Launch) (dC : Nat → ClassId) (dI : Nat → Nat → Nat) (ad cd : Nat → Nat) (ao co : Nat) (sz : Nat) (w wr fl : Nat → Int32) (pw sc : Int32) (lw rot vb : Nat → Int32) (rec tk : Int32) (live row : Nat → Int32) (cur ser dur wo : Int32) (bts : Nat → Int32) (us : Int32) (act : Nat → Int32) (rd rs : Int32) (fo : Nat → Int64) (j k : Nat) (hj : j < 32) (hk : k < 16) : Met l y_L_word w_L_word ({ frames := 3, cells := 0, slots := 0, locals := 65 }) (xP (dC, dI) vwCl ((co, .long) :: xt cd) ((ao, .inl (co, 1, .inr (.inl fo))) :: (xw ad cd w wr fl (nI 1) (-1) lw rot vb (nI 0) (nI 0) live row (-1) (nI 0) (nI 0) (nI 0) bts (nI 0) act (nI 0) (nI 0))) sz [.ref (ad 0), .int (nI j), .int (nI k), .ref ao]) (va_Qi (fun r (u : Unit) => r = nI 0) (fun (u : Unit) (t : State) => xB (dC, dI) vwCl ((co, .long) :: xt cd) (oA ao ad sz) ((ao, .inl (co, 1, .inr (.inl (vp_updL fo 0 ((w (16 * j + k)).toInt64))))) :: (xw ad cd w wr fl (nI 1) (-1) lw rot vb (nI 0) (nI 0) live row (-1) (nI 0) (nI 0) (nI 0) bts (nI 0) act (nI 0) (nI 0))) t) (oA ao ad sz)) 0 0 (oA ao ad sz) := by
  refine va_MetW (cc := b_L_word) (maxL := 5) (ret := (some (.int))) (by decide) rfl ?_
  intro P e s m args below meth c0 s₁ B hml hv
  obtain ⟨rfl, hsz, hP, hK, hD0⟩ := hv
  have hx := B.exec
  have hb := B.bytes
  have hr := B.returns
  have hts := atoms_spec (ws := w_L_word) B.pre
  have hown : s.vm.findClass R_L = some m.cls := findClass_of_methodNamed B.named
  have hlocks := B.notSynchronized
  subst hsz
  have hD := ow_D (sz := s.heap.size) hD0
  have hS : va_S (oA ao ad s.heap.size) s.heap s.heap [] := va_S.rf
  have hA : ∀ q : Nat, s.heap.size ≤ q → (oA ao ad s.heap.size) q := fun q h => Or.inr (Or.inr h)
  have hl := lv_entry ([.ref (ad 0), .int (nI j), .int (nI k), .ref ao]) (n := 5) (Nat.le_of_ble_eq_true rfl)
  rw [lg_entry_eq]
  generalize (lg_sl ([.ref (ad 0), .int (nI j), .int (nI k), .ref ao]) ++ List.replicate (5 - (lg_sl ([.ref (ad 0), .int (nI j), .int (nI k), .ref ao])).length) Slot.unset).toArray = ls at hl ⊢
  have hl : lv_has ls 5 [(0, .ref (ad 0)), (1, .int (nI j)), (2, .int (nI k)), (3, .ref ao)] := hl
  refine lv_aload_n hx hb d_L_word_0 rfl (lv_at hl 3 rfl) ?_
  refine lv_iconst (v := nI 0) hx hb d_L_word_1 (by decide) ?_
  refine lv_aload_n hx hb d_L_word_2 rfl (lv_at hl 0 rfl) ?_
  refine lv_iload_n hx hb d_L_word_3 rfl (lv_at hl 1 rfl) ?_
  refine lv_iload_n hx hb d_L_word_4 rfl (lv_at hl 2 rfl) ?_
  have hPc := hP.sub (ws' := (xw ad cd w wr fl (nI 1) (-1) lw rot vb (nI 0) (nI 0) live row (-1) (nI 0) (nI 0) (nI 0) bts (nI 0) act (nI 0) (nI 0))) [1, 2, 3, 4, 5, 6, 7, 8, 9, 10, 11, 12, 13, 14, 15] rfl
  have hKc := hK.sub (tys' := (xt cd)) [1, 2, 3, 4, 5, 6, 7, 8, 9, 10] rfl
  refine vp_callSi (va_runV (C := R_R) (As := [.int (nI j), .int (nI k)]) (rest := [.int (nI 0), .ref ao]) ⟨hx, hb, hml, hown, hts⟩ (c_R_word_ok l dC dI ad cd w wr fl (nI 1) (-1) lw rot vb (nI 0) (nI 0) live row (-1) (nI 0) (nI 0) (nI 0) bts (nI 0) act (nI 0) (nI 0) j k (hj) (hk)) (cwV 2 hts (g_V t_697 t_698 t_699 t_1 t_700) rfl rfl rfl (by decide +kernel) ⟨by decide, by decide⟩) (xR_v hPc hKc 0 rfl rfl) rfl rfl hl.1 rfl (lv_room (Nat.le_of_ble_eq_true rfl)) d_L_word_5 ⟨Nat.le_refl _, Nat.le_refl _⟩).run (fun r5 q5 => ?_)
  subst q5
  refine lv_i2l (v := (w (16 * j + k)).toInt64) hx hb d_L_word_8 rfl ?_
  refine va_last hx hb hK hP hD hS 0 0 rfl rfl (vp_in_nI (by omega) (by decide)) d_L_word_9 (fun H locs hP hD hS => ?_)
  rw [nI_clamp (by omega)] at hP hD
  have hP : va_P (dC, dI) vwCl ((ao, .inl (co, 1, .inr (.inl (vp_updL fo 0 ((w (16 * j + k)).toInt64))))) :: (xw ad cd w wr fl (nI 1) (-1) lw rot vb (nI 0) (nI 0) live row (-1) (nI 0) (nI 0) (nI 0) bts (nI 0) act (nI 0) (nI 0))) H := hP
  have hD : va_D (oA ao ad s.heap.size) ((ao, .inl (co, 1, .inr (.inl (vp_updL fo 0 ((w (16 * j + k)).toInt64))))) :: (xw ad cd w wr fl (nI 1) (-1) lw rot vb (nI 0) (nI 0) live row (-1) (nI 0) (nI 0) (nI 0) bts (nI 0) act (nI 0) (nI 0))) := hD
  refine lv_goto (tgt := 17) hx hb d_L_word_10 (by decide) ?_
  refine lv_iconst (v := nI 0) hx hb d_L_word_17 (by decide) ?_
  exact W.iret (v := nI 0) hx hb hr (fun t ht hW => ⟨⟨nI 0, (), rfl, by first | rfl | trivial | omega, ⟨by rw [ht]; exact hP, va_K.moved hW.alike hK, hD⟩⟩, hS.F ht⟩) hS.2.2 d_L_word_18
set_option maxHeartbeats 4000000 in
set_option maxRecDepth 100000 in
theorem cw_L_setProduct (l : Launch) (dC : Nat → ClassId) (dI : Nat → Nat → Nat) (ad cd : Nat → Nat) (sz : Nat) (w wr fl : Nat → Int32) (pw sc : Int32) (lw rot vb : Nat → Int32) (rec tk : Int32) (live row : Nat → Int32) (cur ser dur wo : Int32) (bts : Nat → Int32) (us : Int32) (act : Nat → Int32) (rd rs : Int32) (j : Nat) (b : Int32) (hj : j < 40) : Met l y_L_setProduct w_L_setProduct ({ frames := 3, cells := 0, slots := 0, locals := 64 }) (xP (dC, dI) vwCl (xt cd) (xw ad cd w wr fl (nI 1) (-1) lw rot vb (nI 0) (nI 0) live row (-1) (nI 0) (nI 0) (nI 0) bts (nI 0) act (nI 0) (nI 0)) sz [.ref (ad 0), .int (nI j), .int b]) (va_Qi (fun r (u : Unit) => r = nI 0) (fun (u : Unit) (t : State) => xB (dC, dI) vwCl (xt cd) (xA 15 ad sz) (xw ad cd w wr fl (nI 1) (-1) lw rot vb (nI 0) (nI 0) live row (-1) (nI 0) (nI 0) (nI 0) bts (nI 0) (upd act j (vp_nar .boolean b)) (nI 0) (nI 0)) t) (xA 15 ad sz)) 0 0 (xA 15 ad sz) := by
  refine va_MetW (cc := b_L_setProduct) (maxL := 4) (ret := (some (.int))) (by decide) rfl ?_
  intro P e s m args below meth c0 s₁ B hml hv
  obtain ⟨rfl, hsz, hP, hK, hD0⟩ := hv
  have hx := B.exec
  have hb := B.bytes
  have hr := B.returns
  have hts := atoms_spec (ws := w_L_setProduct) B.pre
  have hown : s.vm.findClass R_L = some m.cls := findClass_of_methodNamed B.named
  have hlocks := B.notSynchronized
  subst hsz
  have hD := xw_D (sz := s.heap.size) hD0
  have hS : va_S (xA 15 ad s.heap.size) s.heap s.heap [] := va_S.rf
  have hA : ∀ q : Nat, s.heap.size ≤ q → (xA 15 ad s.heap.size) q := fun q h => Or.inr h
  have hl := lv_entry ([.ref (ad 0), .int (nI j), .int b]) (n := 4) (Nat.le_of_ble_eq_true rfl)
  rw [lg_entry_eq]
  generalize (lg_sl ([.ref (ad 0), .int (nI j), .int b]) ++ List.replicate (4 - (lg_sl ([.ref (ad 0), .int (nI j), .int b])).length) Slot.unset).toArray = ls at hl ⊢
  have hl : lv_has ls 4 [(0, .ref (ad 0)), (1, .int (nI j)), (2, .int b)] := hl
  refine lv_aload_n hx hb d_L_setProduct_0 rfl (lv_at hl 0 rfl) ?_
  refine lv_iload_n hx hb d_L_setProduct_1 rfl (lv_at hl 1 rfl) ?_
  refine lv_iload_n hx hb d_L_setProduct_2 rfl (lv_at hl 2 rfl) ?_
  have hSz := hS.1
  refine va_callv (va_runV (C := R_R) (As := [.int (nI j), .int b]) (rest := []) ⟨hx, hb, hml, hown, hts⟩ (c_R_setProduct_ok l dC dI ad cd s.heap.size w wr fl (nI 1) (-1) lw rot vb (nI 0) (nI 0) live row (-1) (nI 0) (nI 0) (nI 0) bts (nI 0) act (nI 0) (nI 0) j b (hj)) (cwV 2 hts (g_V t_643 t_644 t_645 t_1 t_646) rfl rfl rfl (by decide +kernel) ⟨by decide, by decide⟩) (xP_v hP hK hD 0 rfl rfl) rfl rfl hl.1 rfl (lv_room (Nat.le_of_ble_eq_true rfl)) d_L_setProduct_3 ⟨Nat.le_refl _, Nat.le_refl _⟩) hS (fun q _ h => xA_up hS.1 q h) (fun q h => xA_up hS.1 q h) (fun u3 t H1 locs1 ht hvm q3 hB hz1 hk1 hS => ?_)
  obtain ⟨hP1, hK1, hD1⟩ := hB
  rw [ht] at hP1
  have hD : va_D (xA 15 ad s.heap.size) (xw ad cd w wr fl (nI 1) (-1) lw rot vb (nI 0) (nI 0) live row (-1) (nI 0) (nI 0) (nI 0) bts (nI 0) (upd act j (vp_nar .boolean b)) (nI 0) (nI 0)) := hD1.weaken (fun _ q _ h => xA_up hSz _ h)
  have hP : va_P (dC, dI) vwCl (xw ad cd w wr fl (nI 1) (-1) lw rot vb (nI 0) (nI 0) live row (-1) (nI 0) (nI 0) (nI 0) bts (nI 0) (upd act j (vp_nar .boolean b)) (nI 0) (nI 0)) H1 := hP1
  generalize H1 = H at hP hS ⊢
  generalize locs1 = locs at hS ⊢
  refine lv_goto (tgt := 12) hx hb d_L_setProduct_6 (by decide) ?_
  refine lv_iconst (v := nI 0) hx hb d_L_setProduct_12 (by decide) ?_
  exact W.iret (v := nI 0) hx hb hr (fun t ht hW => ⟨⟨nI 0, (), rfl, by first | rfl | trivial | omega, ⟨by rw [ht]; exact hP, va_K.moved hW.alike hK, hD⟩⟩, hS.F ht⟩) hS.2.2 d_L_setProduct_13
set_option maxHeartbeats 4000000 in
set_option maxRecDepth 100000 in
theorem cw_L_cutAfter (l : Launch) (dC : Nat → ClassId) (dI : Nat → Nat → Nat) (ad cd : Nat → Nat) (sz : Nat) (w wr fl : Nat → Int32) (pw sc : Int32) (lw rot vb : Nat → Int32) (rec tk : Int32) (live row : Nat → Int32) (cur ser dur wo : Int32) (bts : Nat → Int32) (us : Int32) (act : Nat → Int32) (rd rs : Int32) (n : Int32) (hok : nI 0 ≤ n ∧ n ≤ nI 300) : Met l y_L_cutAfter w_L_cutAfter ({ frames := 2, cells := 0, slots := 0, locals := 43 }) (xP (dC, dI) vwCl (xt cd) (xw ad cd w wr fl (nI 1) (-1) lw rot vb (nI 0) (nI 0) live row (-1) (nI 0) (nI 0) (nI 0) bts (nI 0) act (nI 0) (nI 0)) sz [.ref (ad 0), .int n]) (va_Qi (fun r (u : Unit) => r = nI 0) (fun (u : Unit) (t : State) => xB (dC, dI) vwCl (xt cd) (xA 15 ad sz) (xw ad cd w wr fl (nI 1) n lw rot vb (nI 0) (nI 0) live row (-1) (nI 0) (nI 0) (nI 0) bts (nI 0) act (nI 0) (nI 0)) t) (xA 15 ad sz)) 0 0 (xA 15 ad sz) := by
  refine va_MetW (cc := b_L_cutAfter) (maxL := 3) (ret := (some (.int))) (by decide) rfl ?_
  intro P e s m args below meth c0 s₁ B hml hv
  obtain ⟨rfl, hsz, hP, hK, hD0⟩ := hv
  have hx := B.exec
  have hb := B.bytes
  have hr := B.returns
  have hts := atoms_spec (ws := w_L_cutAfter) B.pre
  have hown : s.vm.findClass R_L = some m.cls := findClass_of_methodNamed B.named
  have hlocks := B.notSynchronized
  subst hsz
  have hD := xw_D (sz := s.heap.size) hD0
  have hS : va_S (xA 15 ad s.heap.size) s.heap s.heap [] := va_S.rf
  have hA : ∀ q : Nat, s.heap.size ≤ q → (xA 15 ad s.heap.size) q := fun q h => Or.inr h
  have hl := lv_entry ([.ref (ad 0), .int n]) (n := 3) (Nat.le_of_ble_eq_true rfl)
  rw [lg_entry_eq]
  generalize (lg_sl ([.ref (ad 0), .int n]) ++ List.replicate (3 - (lg_sl ([.ref (ad 0), .int n])).length) Slot.unset).toArray = ls at hl ⊢
  have hl : lv_has ls 3 [(0, .ref (ad 0)), (1, .int n)] := hl
  refine lv_aload_n hx hb d_L_cutAfter_0 rfl (lv_at hl 0 rfl) ?_
  refine lv_iload_n hx hb d_L_cutAfter_1 rfl (lv_at hl 1 rfl) ?_
  have hSz := hS.1
  refine va_callv (va_runV (C := R_R) (As := [.int n]) (rest := []) ⟨hx, hb, hml, hown, hts⟩ (c_R_cutAfter_ok l dC dI ad cd s.heap.size w wr fl (nI 1) (-1) lw rot vb (nI 0) (nI 0) live row (-1) (nI 0) (nI 0) (nI 0) bts (nI 0) act (nI 0) (nI 0) n (hok)) (cwV 1 hts (g_V t_650 t_651 t_652 t_1 t_653) rfl rfl rfl (by decide +kernel) ⟨by decide, by decide⟩) (xP_v hP hK hD 0 rfl rfl) rfl rfl hl.1 rfl (lv_room (Nat.le_of_ble_eq_true rfl)) d_L_cutAfter_2 ⟨Nat.le_refl _, Nat.le_refl _⟩) hS (fun q _ h => xA_up hS.1 q h) (fun q h => xA_up hS.1 q h) (fun u2 t H1 locs1 ht hvm q2 hB hz1 hk1 hS => ?_)
  obtain ⟨hP1, hK1, hD1⟩ := hB
  rw [ht] at hP1
  have hD : va_D (xA 15 ad s.heap.size) (xw ad cd w wr fl (nI 1) n lw rot vb (nI 0) (nI 0) live row (-1) (nI 0) (nI 0) (nI 0) bts (nI 0) act (nI 0) (nI 0)) := hD1.weaken (fun _ q _ h => xA_up hSz _ h)
  have hP : va_P (dC, dI) vwCl (xw ad cd w wr fl (nI 1) n lw rot vb (nI 0) (nI 0) live row (-1) (nI 0) (nI 0) (nI 0) bts (nI 0) act (nI 0) (nI 0)) H1 := hP1
  generalize H1 = H at hP hS ⊢
  generalize locs1 = locs at hS ⊢
  refine lv_goto (tgt := 11) hx hb d_L_cutAfter_5 (by decide) ?_
  refine lv_iconst (v := nI 0) hx hb d_L_cutAfter_11 (by decide) ?_
  exact W.iret (v := nI 0) hx hb hr (fun t ht hW => ⟨⟨nI 0, (), rfl, by first | rfl | trivial | omega, ⟨by rw [ht]; exact hP, va_K.moved hW.alike hK, hD⟩⟩, hS.F ht⟩) hS.2.2 d_L_cutAfter_12
set_option maxHeartbeats 4000000 in
set_option maxRecDepth 100000 in
theorem cw_L_failBlock (l : Launch) (dC : Nat → ClassId) (dI : Nat → Nat → Nat) (ad cd : Nat → Nat) (sz : Nat) (w wr fl : Nat → Int32) (pw sc : Int32) (lw rot vb : Nat → Int32) (rec tk : Int32) (live row : Nat → Int32) (cur ser dur wo : Int32) (bts : Nat → Int32) (us : Int32) (act : Nat → Int32) (rd rs : Int32) (j : Nat) (hj : j < 8) : Met l y_L_failBlock w_L_failBlock ({ frames := 2, cells := 0, slots := 0, locals := 43 }) (xP (dC, dI) vwCl (xt cd) (xw ad cd w wr fl (nI 1) (-1) lw rot vb (nI 0) (nI 0) live row (-1) (nI 0) (nI 0) (nI 0) bts (nI 0) act (nI 0) (nI 0)) sz [.ref (ad 0), .int (nI j)]) (va_Qi (fun r (u : Unit) => r = nI 0) (fun (u : Unit) (t : State) => xB (dC, dI) vwCl (xt cd) (xA 15 ad sz) (xw ad cd w wr (upd fl j (vp_nar .boolean (nI 1))) (nI 1) (-1) lw rot vb (nI 0) (nI 0) live row (-1) (nI 0) (nI 0) (nI 0) bts (nI 0) act (nI 0) (nI 0)) t) (xA 15 ad sz)) 0 0 (xA 15 ad sz) := by
  refine va_MetW (cc := b_L_failBlock) (maxL := 3) (ret := (some (.int))) (by decide) rfl ?_
  intro P e s m args below meth c0 s₁ B hml hv
  obtain ⟨rfl, hsz, hP, hK, hD0⟩ := hv
  have hx := B.exec
  have hb := B.bytes
  have hr := B.returns
  have hts := atoms_spec (ws := w_L_failBlock) B.pre
  have hown : s.vm.findClass R_L = some m.cls := findClass_of_methodNamed B.named
  have hlocks := B.notSynchronized
  subst hsz
  have hD := xw_D (sz := s.heap.size) hD0
  have hS : va_S (xA 15 ad s.heap.size) s.heap s.heap [] := va_S.rf
  have hA : ∀ q : Nat, s.heap.size ≤ q → (xA 15 ad s.heap.size) q := fun q h => Or.inr h
  have hl := lv_entry ([.ref (ad 0), .int (nI j)]) (n := 3) (Nat.le_of_ble_eq_true rfl)
  rw [lg_entry_eq]
  generalize (lg_sl ([.ref (ad 0), .int (nI j)]) ++ List.replicate (3 - (lg_sl ([.ref (ad 0), .int (nI j)])).length) Slot.unset).toArray = ls at hl ⊢
  have hl : lv_has ls 3 [(0, .ref (ad 0)), (1, .int (nI j))] := hl
  refine lv_aload_n hx hb d_L_failBlock_0 rfl (lv_at hl 0 rfl) ?_
  refine lv_iload_n hx hb d_L_failBlock_1 rfl (lv_at hl 1 rfl) ?_
  have hSz := hS.1
  refine va_callv (va_runV (C := R_R) (As := [.int (nI j)]) (rest := []) ⟨hx, hb, hml, hown, hts⟩ (c_R_failBlock_ok l dC dI ad cd s.heap.size w wr fl (nI 1) (-1) lw rot vb (nI 0) (nI 0) live row (-1) (nI 0) (nI 0) (nI 0) bts (nI 0) act (nI 0) (nI 0) j (hj)) (cwV 1 hts (g_V t_672 t_673 t_674 t_1 t_675) rfl rfl rfl (by decide +kernel) ⟨by decide, by decide⟩) (xP_v hP hK hD 0 rfl rfl) rfl rfl hl.1 rfl (lv_room (Nat.le_of_ble_eq_true rfl)) d_L_failBlock_2 ⟨Nat.le_refl _, Nat.le_refl _⟩) hS (fun q _ h => xA_up hS.1 q h) (fun q h => xA_up hS.1 q h) (fun u2 t H1 locs1 ht hvm q2 hB hz1 hk1 hS => ?_)
  obtain ⟨hP1, hK1, hD1⟩ := hB
  rw [ht] at hP1
  have hD : va_D (xA 15 ad s.heap.size) (xw ad cd w wr (upd fl j (vp_nar .boolean (nI 1))) (nI 1) (-1) lw rot vb (nI 0) (nI 0) live row (-1) (nI 0) (nI 0) (nI 0) bts (nI 0) act (nI 0) (nI 0)) := hD1.weaken (fun _ q _ h => xA_up hSz _ h)
  have hP : va_P (dC, dI) vwCl (xw ad cd w wr (upd fl j (vp_nar .boolean (nI 1))) (nI 1) (-1) lw rot vb (nI 0) (nI 0) live row (-1) (nI 0) (nI 0) (nI 0) bts (nI 0) act (nI 0) (nI 0)) H1 := hP1
  generalize H1 = H at hP hS ⊢
  generalize locs1 = locs at hS ⊢
  refine lv_goto (tgt := 11) hx hb d_L_failBlock_5 (by decide) ?_
  refine lv_iconst (v := nI 0) hx hb d_L_failBlock_11 (by decide) ?_
  exact W.iret (v := nI 0) hx hb hr (fun t ht hW => ⟨⟨nI 0, (), rfl, by first | rfl | trivial | omega, ⟨by rw [ht]; exact hP, va_K.moved hW.alike hK, hD⟩⟩, hS.F ht⟩) hS.2.2 d_L_failBlock_12
set_option maxHeartbeats 4000000 in
set_option maxRecDepth 100000 in
theorem cw_L_poke (l : Launch) (dC : Nat → ClassId) (dI : Nat → Nat → Nat) (ad cd : Nat → Nat) (sz : Nat) (w wr fl : Nat → Int32) (pw sc : Int32) (lw rot vb : Nat → Int32) (rec tk : Int32) (live row : Nat → Int32) (cur ser dur wo : Int32) (bts : Nat → Int32) (us : Int32) (act : Nat → Int32) (rd rs : Int32) (j k : Nat) (mask : Int32) (hj : j < 32) (hk : k < 16) : Met l y_L_poke w_L_poke ({ frames := 3, cells := 0, slots := 0, locals := 66 }) (xP (dC, dI) vwCl (xt cd) (xw ad cd w wr fl (nI 1) (-1) lw rot vb (nI 0) (nI 0) live row (-1) (nI 0) (nI 0) (nI 0) bts (nI 0) act (nI 0) (nI 0)) sz [.ref (ad 0), .int (nI j), .int (nI k), .int mask]) (va_Qi (fun r (u : Unit) => r = nI 0) (fun (u : Unit) (t : State) => xB (dC, dI) vwCl (xt cd) (xA 15 ad sz) (xw ad cd (upd w (j * 16 + k) (w (j * 16 + k) ^^^ mask)) wr fl (nI 1) (-1) lw rot vb (nI 0) (nI 0) live row (-1) (nI 0) (nI 0) (nI 0) bts (nI 0) act (nI 0) (nI 0)) t) (xA 15 ad sz)) 0 0 (xA 15 ad sz) := by
  refine va_MetW (cc := b_L_poke) (maxL := 5) (ret := (some (.int))) (by decide) rfl ?_
  intro P e s m args below meth c0 s₁ B hml hv
  obtain ⟨rfl, hsz, hP, hK, hD0⟩ := hv
  have hx := B.exec
  have hb := B.bytes
  have hr := B.returns
  have hts := atoms_spec (ws := w_L_poke) B.pre
  have hown : s.vm.findClass R_L = some m.cls := findClass_of_methodNamed B.named
  have hlocks := B.notSynchronized
  subst hsz
  have hD := xw_D (sz := s.heap.size) hD0
  have hS : va_S (xA 15 ad s.heap.size) s.heap s.heap [] := va_S.rf
  have hA : ∀ q : Nat, s.heap.size ≤ q → (xA 15 ad s.heap.size) q := fun q h => Or.inr h
  have hl := lv_entry ([.ref (ad 0), .int (nI j), .int (nI k), .int mask]) (n := 5) (Nat.le_of_ble_eq_true rfl)
  rw [lg_entry_eq]
  generalize (lg_sl ([.ref (ad 0), .int (nI j), .int (nI k), .int mask]) ++ List.replicate (5 - (lg_sl ([.ref (ad 0), .int (nI j), .int (nI k), .int mask])).length) Slot.unset).toArray = ls at hl ⊢
  have hl : lv_has ls 5 [(0, .ref (ad 0)), (1, .int (nI j)), (2, .int (nI k)), (3, .int mask)] := hl
  refine lv_aload_n hx hb d_L_poke_0 rfl (lv_at hl 0 rfl) ?_
  refine lv_iload_n hx hb d_L_poke_1 rfl (lv_at hl 1 rfl) ?_
  refine lv_iload_n hx hb d_L_poke_2 rfl (lv_at hl 2 rfl) ?_
  refine lv_iload_n hx hb d_L_poke_3 rfl (lv_at hl 3 rfl) ?_
  have hSz := hS.1
  refine va_callv (va_runV (C := R_R) (As := [.int (nI j), .int (nI k), .int mask]) (rest := []) ⟨hx, hb, hml, hown, hts⟩ (c_R_poke_ok l dC dI ad cd s.heap.size w wr fl (nI 1) (-1) lw rot vb (nI 0) (nI 0) live row (-1) (nI 0) (nI 0) (nI 0) bts (nI 0) act (nI 0) (nI 0) j k mask (hj) (hk)) (cwV 3 hts (g_V t_683 t_684 t_685 t_1 t_686) rfl rfl rfl (by decide +kernel) ⟨by decide, by decide⟩) (xP_v hP hK hD 0 rfl rfl) rfl rfl hl.1 rfl (lv_room (Nat.le_of_ble_eq_true rfl)) d_L_poke_4 ⟨Nat.le_refl _, Nat.le_refl _⟩) hS (fun q _ h => xA_up hS.1 q h) (fun q h => xA_up hS.1 q h) (fun u4 t H1 locs1 ht hvm q4 hB hz1 hk1 hS => ?_)
  obtain ⟨hP1, hK1, hD1⟩ := hB
  rw [ht] at hP1
  have hD : va_D (xA 15 ad s.heap.size) (xw ad cd (upd w (j * 16 + k) (w (j * 16 + k) ^^^ mask)) wr fl (nI 1) (-1) lw rot vb (nI 0) (nI 0) live row (-1) (nI 0) (nI 0) (nI 0) bts (nI 0) act (nI 0) (nI 0)) := hD1.weaken (fun _ q _ h => xA_up hSz _ h)
  have hP : va_P (dC, dI) vwCl (xw ad cd (upd w (j * 16 + k) (w (j * 16 + k) ^^^ mask)) wr fl (nI 1) (-1) lw rot vb (nI 0) (nI 0) live row (-1) (nI 0) (nI 0) (nI 0) bts (nI 0) act (nI 0) (nI 0)) H1 := hP1
  generalize H1 = H at hP hS ⊢
  generalize locs1 = locs at hS ⊢
  refine lv_goto (tgt := 14) hx hb d_L_poke_7 (by decide) ?_
  refine lv_iconst (v := nI 0) hx hb d_L_poke_14 (by decide) ?_
  exact W.iret (v := nI 0) hx hb hr (fun t ht hW => ⟨⟨nI 0, (), rfl, by first | rfl | trivial | omega, ⟨by rw [ht]; exact hP, va_K.moved hW.alike hK, hD⟩⟩, hS.F ht⟩) hS.2.2 d_L_poke_15
end
section
set_option maxHeartbeats 4000000 in
set_option maxRecDepth 100000 in
theorem cb_L_axle (l : Launch) (hl9 : l.stackTraces = false) (dC : Nat → ClassId) (dI : Nat → Nat → Nat) (ad cd : Nat → Nat) (ao co : Nat) (sz az : Nat) (w wr fl : Nat → Int32) (pw sc : Int32) (lw rot vb : Nat → Int32) (rec tk : Int32) (live row : Nat → Int32) (cur ser dur wo : Int32) (bts : Nat → Int32) (us : Int32) (act : Nat → Int32) (rd rs : Int32) (fo : Nat → Int64) (st : Int32) (hok : ¬ (nI 1 ≤ st ∧ st ≤ nI 1200)) : Met l y_L_axle w_L_axle ({ frames := 8, cells := 1, slots := 6, locals := 141 }) (oP (dC, dI) vwCl ((co, .long) :: xt cd) ((ao, .inl (co, 1, .inr (.inl fo))) :: (xw ad cd w wr fl (nI 1) (-1) lw rot vb (nI 0) (nI 0) live row (-1) (nI 0) (nI 0) (nI 0) bts (nI 0) act (nI 0) (nI 0))) sz az [.ref (ad 0), .int st, .ref ao]) (va_Qi (fun r (u : Unit) => r = nI 1) (fun (u : Unit) (t : State) => xB (dC, dI) vwCl ((co, .long) :: xt cd) (oA ao ad sz) ((ao, .inl (co, 1, .inr (.inl fo))) :: (xw ad cd w wr fl (nI 1) (-1) lw rot vb (nI 0) (nI 0) live row (-1) (nI 0) (nI 0) (nI 0) bts (nI 0) act (nI 0) (nI 0))) t) (oA ao ad sz)) 1 6 (oA ao ad sz) := by
  refine va_MetW (cc := b_L_axle) (maxL := 4) (ret := (some (.int))) (by decide) rfl ?_
  intro P e s m args below meth c0 s₁ B hml hv
  obtain ⟨rfl, hsz, hP, hK, hD0, hz, hn, hc⟩ := hv
  have hx := B.exec
  have hb := B.bytes
  have hr := B.returns
  have hts := atoms_spec (ws := w_L_axle) B.pre
  have hown : s.vm.findClass R_L = some m.cls := findClass_of_methodNamed B.named
  have hlocks := B.notSynchronized
  subst hsz
  have hD := ow_D (sz := s.heap.size) hD0
  have hl := lv_entry ([.ref (ad 0), .int st, .ref ao]) (n := 4) (Nat.le_of_ble_eq_true rfl)
  rw [lg_entry_eq]
  generalize (lg_sl ([.ref (ad 0), .int st, .ref ao]) ++ List.replicate (4 - (lg_sl ([.ref (ad 0), .int st, .ref ao])).length) Slot.unset).toArray = ls at hl ⊢
  have hl : lv_has ls 4 [(0, .ref (ad 0)), (1, .int st), (2, .ref ao)] := hl
  obtain ⟨m9, meth9, c9, hn9, hm9, hc9, -, -, hh9, -⟩ := Cond.codeWith_spec (hts _ List.mem_cons_self)
  cases B.named.symm.trans hn9
  cases B.method.symm.trans hm9
  cases (Stand.of_body B).code.symm.trans hc9
  have hrows := rows_of hh9
  refine lv_aload_n hx hb d_L_axle_0 rfl (lv_at hl 2 rfl) ?_
  refine lv_iconst (v := nI 0) hx hb d_L_axle_1 (by decide) ?_
  refine lv_aload_n hx hb d_L_axle_2 rfl (lv_at hl 0 rfl) ?_
  refine lv_iload_n hx hb d_L_axle_3 rfl (lv_at hl 1 rfl) ?_
  have hPc := hP.sub (ws' := (xw ad cd w wr fl (nI 1) (-1) lw rot vb (nI 0) (nI 0) live row (-1) (nI 0) (nI 0) (nI 0) bts (nI 0) act (nI 0) (nI 0))) [1, 2, 3, 4, 5, 6, 7, 8, 9, 10, 11, 12, 13, 14, 15] rfl
  have hKc := hK.sub (tys' := (xt cd)) [1, 2, 3, 4, 5, 6, 7, 8, 9, 10] rfl
  refine th_catch1 (x := ⟨0, 9, 12, 13⟩) (rest := [.int (nI 0), .ref ao]) hrows (by decide) (by decide) hown (hts (.classLink R_L 13 E_A) (List.mem_cons_of_mem _ t_265)) (va_Nw.use rfl hn.1.1) (fun T hT X => th_runV (C := R_R) (As := [.int st]) (rest := [.int (nI 0), .ref ao]) ⟨hx, hb, hml, hown, hts⟩ (th_R_axle l hl9 dC dI ad cd az w wr fl (nI 1) (-1) lw rot vb (nI 0) (nI 0) live row (-1) (nI 0) (nI 0) (nI 0) bts (nI 0) act (nI 0) (nI 0) st hok) (cwV 1 hts (g_V t_267 t_268 t_269 t_1 t_270) rfl rfl rfl (by decide +kernel) ⟨by decide, by decide⟩) (xT_v hPc hKc hz hn 0 rfl rfl) rfl rfl hl.1 rfl (lv_room (Nat.le_of_ble_eq_true rfl)) d_L_axle_4 ⟨by decide, by decide⟩ hT X) (fun q H1 hz1 hk1 => ?_)
  have hP1 : va_P (dC, dI) vwCl ((ao, .inl (co, 1, .inr (.inl fo))) :: (xw ad cd w wr fl (nI 1) (-1) lw rot vb (nI 0) (nI 0) live row (-1) (nI 0) (nI 0) (nI 0) bts (nI 0) act (nI 0) (nI 0))) H1 := hP.kept (fun k q hk => hk1 _ ((hP k q hk).lt))
  have hS1 : va_S (oA ao ad s.heap.size) s.heap H1 [] := ⟨hz1, fun q h1 _ => hk1 q h1, fun _ h => by cases h⟩
  refine W.eq (g2 := F0 m 12 ls [.ref q]) rfl ?_
  refine lv_astore_n hx hb d_L_axle_12 rfl hl (by decide) rfl (fun ls hl => ?_)
  have hl : lv_has ls 4 [(3, .ref q), (0, .ref (ad 0)), (1, .int st), (2, .ref ao)] := hl
  refine lv_iconst (v := nI 1) hx hb d_L_axle_13 (by decide) ?_
  exact W.iret (v := nI 1) hx hb hr (fun t ht hW => ⟨⟨nI 1, (), rfl, rfl, ⟨by rw [ht]; exact hP1, va_K.moved hW.alike hK, hD⟩⟩, hS1.F ht⟩) hS1.2.2 d_L_axle_14
set_option maxHeartbeats 4000000 in
set_option maxRecDepth 100000 in
theorem cb_L_close (l : Launch) (hl9 : l.stackTraces = false) (dC : Nat → ClassId) (dI : Nat → Nat → Nat) (ad cd : Nat → Nat) (ao co : Nat) (sz az : Nat) (w wr fl : Nat → Int32) (pw sc : Int32) (lw rot vb : Nat → Int32) (rec tk : Int32) (live row : Nat → Int32) (cur ser dur wo : Int32) (bts : Nat → Int32) (us : Int32) (act : Nat → Int32) (rd rs : Int32) (fo : Nat → Int64) (plate tare product clock : Int32) (hbad : ¬ ((nI 0 ≤ tare ∧ tare ≤ nI 216000) ∧ (nI 0 ≤ product ∧ product ≤ nI 39) ∧ (nI 0 ≤ clock ∧ clock ≤ nI 67108863))) : Met l y_L_close w_L_close ({ frames := 8, cells := 1, slots := 6, locals := 145 }) (oP (dC, dI) vwCl ((co, .long) :: xt cd) ((ao, .inl (co, 1, .inr (.inl fo))) :: (xw ad cd w wr fl (nI 1) (-1) lw rot vb (nI 0) (nI 0) live row (-1) (nI 0) (nI 0) (nI 0) bts (nI 0) act (nI 0) (nI 0))) sz az [.ref (ad 0), .int plate, .int tare, .int product, .int clock, .ref ao]) (va_Qi (fun r (u : Unit) => r = nI 1) (fun (u : Unit) (t : State) => xB (dC, dI) vwCl ((co, .long) :: xt cd) (oA ao ad sz) ((ao, .inl (co, 1, .inr (.inl fo))) :: (xw ad cd w wr fl (nI 1) (-1) lw rot vb (nI 0) (nI 0) live row (-1) (nI 0) (nI 0) (nI 0) bts (nI 0) act (nI 0) (nI 0))) t) (oA ao ad sz)) 1 6 (oA ao ad sz) := by
  refine va_MetW (cc := b_L_close) (maxL := 7) (ret := (some (.int))) (by decide) rfl ?_
  intro P e s m args below meth c0 s₁ B hml hv
  obtain ⟨rfl, hsz, hP, hK, hD0, hz, hn, hc⟩ := hv
  have hx := B.exec
  have hb := B.bytes
  have hr := B.returns
  have hts := atoms_spec (ws := w_L_close) B.pre
  have hown : s.vm.findClass R_L = some m.cls := findClass_of_methodNamed B.named
  have hlocks := B.notSynchronized
  subst hsz
  have hD := ow_D (sz := s.heap.size) hD0
  have hl := lv_entry ([.ref (ad 0), .int plate, .int tare, .int product, .int clock, .ref ao]) (n := 7) (Nat.le_of_ble_eq_true rfl)
  rw [lg_entry_eq]
  generalize (lg_sl ([.ref (ad 0), .int plate, .int tare, .int product, .int clock, .ref ao]) ++ List.replicate (7 - (lg_sl ([.ref (ad 0), .int plate, .int tare, .int product, .int clock, .ref ao])).length) Slot.unset).toArray = ls at hl ⊢
  have hl : lv_has ls 7 [(0, .ref (ad 0)), (1, .int plate), (2, .int tare), (3, .int product), (4, .int clock), (5, .ref ao)] := hl
  obtain ⟨m9, meth9, c9, hn9, hm9, hc9, -, -, hh9, -⟩ := Cond.codeWith_spec (hts _ List.mem_cons_self)
  cases B.named.symm.trans hn9
  cases B.method.symm.trans hm9
  cases (Stand.of_body B).code.symm.trans hc9
  have hrows := rows_of hh9
  refine lv_aload hx hb d_L_close_0 (lv_at hl 5 rfl) ?_
  refine lv_iconst (v := nI 0) hx hb d_L_close_2 (by decide) ?_
  refine lv_aload_n hx hb d_L_close_3 rfl (lv_at hl 0 rfl) ?_
  refine lv_iload_n hx hb d_L_close_4 rfl (lv_at hl 1 rfl) ?_
  refine lv_iload_n hx hb d_L_close_5 rfl (lv_at hl 2 rfl) ?_
  refine lv_iload_n hx hb d_L_close_6 rfl (lv_at hl 3 rfl) ?_
  refine lv_iload hx hb d_L_close_7 (lv_at hl 4 rfl) ?_
  have hPc := hP.sub (ws' := (xw ad cd w wr fl (nI 1) (-1) lw rot vb (nI 0) (nI 0) live row (-1) (nI 0) (nI 0) (nI 0) bts (nI 0) act (nI 0) (nI 0))) [1, 2, 3, 4, 5, 6, 7, 8, 9, 10, 11, 12, 13, 14, 15] rfl
  have hKc := hK.sub (tys' := (xt cd)) [1, 2, 3, 4, 5, 6, 7, 8, 9, 10] rfl
  refine th_catch1 (x := ⟨0, 14, 17, 13⟩) (rest := [.int (nI 0), .ref ao]) hrows (by decide) (by decide) hown (hts (.classLink R_L 13 E_A) (List.mem_cons_of_mem _ t_265)) (va_Nw.use rfl hn.1.1) (fun T hT X => th_runV (C := R_R) (As := [.int plate, .int tare, .int product, .int clock]) (rest := [.int (nI 0), .ref ao]) ⟨hx, hb, hml, hown, hts⟩ (th_R_close l hl9 dC dI ad cd az w wr fl (nI 1) (-1) lw rot vb (nI 0) (nI 0) live row (-1) (nI 0) (nI 0) (nI 0) bts (nI 0) act (nI 0) (nI 0) plate tare product clock hbad) (cwV 4 hts (g_V t_359 t_360 t_361 t_1 t_362) rfl rfl rfl (by decide +kernel) ⟨by decide, by decide⟩) (xT_v hPc hKc hz hn 0 rfl rfl) rfl rfl hl.1 rfl (lv_room (Nat.le_of_ble_eq_true rfl)) d_L_close_9 ⟨by decide, by decide⟩ hT X) (fun q H1 hz1 hk1 => ?_)
  have hP1 : va_P (dC, dI) vwCl ((ao, .inl (co, 1, .inr (.inl fo))) :: (xw ad cd w wr fl (nI 1) (-1) lw rot vb (nI 0) (nI 0) live row (-1) (nI 0) (nI 0) (nI 0) bts (nI 0) act (nI 0) (nI 0))) H1 := hP.kept (fun k q hk => hk1 _ ((hP k q hk).lt))
  have hS1 : va_S (oA ao ad s.heap.size) s.heap H1 [] := ⟨hz1, fun q h1 _ => hk1 q h1, fun _ h => by cases h⟩
  refine W.eq (g2 := F0 m 17 ls [.ref q]) rfl ?_
  refine lv_astore hx hb d_L_close_17 hl (by decide) rfl (fun ls hl => ?_)
  have hl : lv_has ls 7 [(6, .ref q), (0, .ref (ad 0)), (1, .int plate), (2, .int tare), (3, .int product), (4, .int clock), (5, .ref ao)] := hl
  refine lv_iconst (v := nI 1) hx hb d_L_close_19 (by decide) ?_
  exact W.iret (v := nI 1) hx hb hr (fun t ht hW => ⟨⟨nI 1, (), rfl, rfl, ⟨by rw [ht]; exact hP1, va_K.moved hW.alike hK, hD⟩⟩, hS1.F ht⟩) hS1.2.2 d_L_close_20
set_option maxHeartbeats 4000000 in
set_option maxRecDepth 100000 in
theorem cb_L_annul (l : Launch) (hl9 : l.stackTraces = false) (dC : Nat → ClassId) (dI : Nat → Nat → Nat) (ad cd : Nat → Nat) (ao co : Nat) (sz az : Nat) (w wr fl : Nat → Int32) (pw sc : Int32) (lw rot vb : Nat → Int32) (rec tk : Int32) (live row : Nat → Int32) (cur ser dur wo : Int32) (bts : Nat → Int32) (us : Int32) (act : Nat → Int32) (rd rs : Int32) (fo : Nat → Int64) (tno rea : Int32) (hok : ¬ (nI 0 ≤ rea ∧ rea ≤ nI 3)) : Met l y_L_annul w_L_annul ({ frames := 8, cells := 1, slots := 6, locals := 142 }) (oP (dC, dI) vwCl ((co, .long) :: xt cd) ((ao, .inl (co, 1, .inr (.inl fo))) :: (xw ad cd w wr fl (nI 1) (-1) lw rot vb (nI 0) (nI 0) live row (-1) (nI 0) (nI 0) (nI 0) bts (nI 0) act (nI 0) (nI 0))) sz az [.ref (ad 0), .int tno, .int rea, .ref ao]) (va_Qi (fun r (u : Unit) => r = nI 1) (fun (u : Unit) (t : State) => xB (dC, dI) vwCl ((co, .long) :: xt cd) (oA ao ad sz) ((ao, .inl (co, 1, .inr (.inl fo))) :: (xw ad cd w wr fl (nI 1) (-1) lw rot vb (nI 0) (nI 0) live row (-1) (nI 0) (nI 0) (nI 0) bts (nI 0) act (nI 0) (nI 0))) t) (oA ao ad sz)) 1 6 (oA ao ad sz) := by
  refine va_MetW (cc := b_L_annul) (maxL := 5) (ret := (some (.int))) (by decide) rfl ?_
  intro P e s m args below meth c0 s₁ B hml hv
  obtain ⟨rfl, hsz, hP, hK, hD0, hz, hn, hc⟩ := hv
  have hx := B.exec
  have hb := B.bytes
  have hr := B.returns
  have hts := atoms_spec (ws := w_L_annul) B.pre
  have hown : s.vm.findClass R_L = some m.cls := findClass_of_methodNamed B.named
  have hlocks := B.notSynchronized
  subst hsz
  have hD := ow_D (sz := s.heap.size) hD0
  have hl := lv_entry ([.ref (ad 0), .int tno, .int rea, .ref ao]) (n := 5) (Nat.le_of_ble_eq_true rfl)
  rw [lg_entry_eq]
  generalize (lg_sl ([.ref (ad 0), .int tno, .int rea, .ref ao]) ++ List.replicate (5 - (lg_sl ([.ref (ad 0), .int tno, .int rea, .ref ao])).length) Slot.unset).toArray = ls at hl ⊢
  have hl : lv_has ls 5 [(0, .ref (ad 0)), (1, .int tno), (2, .int rea), (3, .ref ao)] := hl
  obtain ⟨m9, meth9, c9, hn9, hm9, hc9, -, -, hh9, -⟩ := Cond.codeWith_spec (hts _ List.mem_cons_self)
  cases B.named.symm.trans hn9
  cases B.method.symm.trans hm9
  cases (Stand.of_body B).code.symm.trans hc9
  have hrows := rows_of hh9
  refine lv_aload_n hx hb d_L_annul_0 rfl (lv_at hl 3 rfl) ?_
  refine lv_iconst (v := nI 0) hx hb d_L_annul_1 (by decide) ?_
  refine lv_aload_n hx hb d_L_annul_2 rfl (lv_at hl 0 rfl) ?_
  refine lv_iload_n hx hb d_L_annul_3 rfl (lv_at hl 1 rfl) ?_
  refine lv_iload_n hx hb d_L_annul_4 rfl (lv_at hl 2 rfl) ?_
  have hPc := hP.sub (ws' := (xw ad cd w wr fl (nI 1) (-1) lw rot vb (nI 0) (nI 0) live row (-1) (nI 0) (nI 0) (nI 0) bts (nI 0) act (nI 0) (nI 0))) [1, 2, 3, 4, 5, 6, 7, 8, 9, 10, 11, 12, 13, 14, 15] rfl
  have hKc := hK.sub (tys' := (xt cd)) [1, 2, 3, 4, 5, 6, 7, 8, 9, 10] rfl
  refine th_catch1 (x := ⟨0, 10, 13, 13⟩) (rest := [.int (nI 0), .ref ao]) hrows (by decide) (by decide) hown (hts (.classLink R_L 13 E_A) (List.mem_cons_of_mem _ t_265)) (va_Nw.use rfl hn.1.1) (fun T hT X => th_runV (C := R_R) (As := [.int tno, .int rea]) (rest := [.int (nI 0), .ref ao]) ⟨hx, hb, hml, hown, hts⟩ (th_R_annul l hl9 dC dI ad cd az w wr fl (nI 1) (-1) lw rot vb (nI 0) (nI 0) live row (-1) (nI 0) (nI 0) (nI 0) bts (nI 0) act (nI 0) (nI 0) tno rea hok) (cwV 2 hts (g_V t_469 t_470 t_471 t_1 t_472) rfl rfl rfl (by decide +kernel) ⟨by decide, by decide⟩) (xT_v hPc hKc hz hn 0 rfl rfl) rfl rfl hl.1 rfl (lv_room (Nat.le_of_ble_eq_true rfl)) d_L_annul_5 ⟨by decide, by decide⟩ hT X) (fun q H1 hz1 hk1 => ?_)
  have hP1 : va_P (dC, dI) vwCl ((ao, .inl (co, 1, .inr (.inl fo))) :: (xw ad cd w wr fl (nI 1) (-1) lw rot vb (nI 0) (nI 0) live row (-1) (nI 0) (nI 0) (nI 0) bts (nI 0) act (nI 0) (nI 0))) H1 := hP.kept (fun k q hk => hk1 _ ((hP k q hk).lt))
  have hS1 : va_S (oA ao ad s.heap.size) s.heap H1 [] := ⟨hz1, fun q h1 _ => hk1 q h1, fun _ h => by cases h⟩
  refine W.eq (g2 := F0 m 13 ls [.ref q]) rfl ?_
  refine lv_astore hx hb d_L_annul_13 hl (by decide) rfl (fun ls hl => ?_)
  have hl : lv_has ls 5 [(4, .ref q), (0, .ref (ad 0)), (1, .int tno), (2, .int rea), (3, .ref ao)] := hl
  refine lv_iconst (v := nI 1) hx hb d_L_annul_15 (by decide) ?_
  exact W.iret (v := nI 1) hx hb hr (fun t ht hW => ⟨⟨nI 1, (), rfl, rfl, ⟨by rw [ht]; exact hP1, va_K.moved hW.alike hK, hD⟩⟩, hS1.F ht⟩) hS1.2.2 d_L_annul_16
set_option maxHeartbeats 4000000 in
set_option maxRecDepth 100000 in
theorem cb_L_ticket (l : Launch) (hl9 : l.stackTraces = false) (dC : Nat → ClassId) (dI : Nat → Nat → Nat) (ad cd : Nat → Nat) (ao co : Nat) (sz az : Nat) (w wr fl : Nat → Int32) (pw sc : Int32) (lw rot vb : Nat → Int32) (rec tk : Int32) (live row : Nat → Int32) (cur ser dur wo : Int32) (bts : Nat → Int32) (us : Int32) (act : Nat → Int32) (rd rs : Int32) (fo : Nat → Int64) (n what : Int32) : Met l y_L_ticket w_L_ticket ({ frames := 8, cells := 1, slots := 6, locals := 142 }) (oP (dC, dI) vwCl ((co, .long) :: xt cd) ((ao, .inl (co, 1, .inr (.inl fo))) :: (xw ad cd w wr fl (nI 1) (-1) lw rot vb (nI 0) (nI 0) live row (-1) (nI 0) (nI 0) (nI 0) bts (nI 0) act (nI 0) (nI 0))) sz az [.ref (ad 0), .int n, .int what, .ref ao]) (va_Qi (fun r (u : Unit) => r = nI 2) (fun (u : Unit) (t : State) => xB (dC, dI) vwCl ((co, .long) :: xt cd) (oA ao ad sz) ((ao, .inl (co, 1, .inr (.inl fo))) :: (xw ad cd w wr fl (nI 1) (-1) lw rot vb (nI 0) (nI 0) live row (-1) (nI 0) (nI 0) (nI 0) bts (nI 0) act (nI 0) (nI 0))) t) (oA ao ad sz)) 1 6 (oA ao ad sz) := by
  refine va_MetW (cc := b_L_ticket) (maxL := 5) (ret := (some (.int))) (by decide) rfl ?_
  intro P e s m args below meth c0 s₁ B hml hv
  obtain ⟨rfl, hsz, hP, hK, hD0, hz, hn, hc⟩ := hv
  have hx := B.exec
  have hb := B.bytes
  have hr := B.returns
  have hts := atoms_spec (ws := w_L_ticket) B.pre
  have hown : s.vm.findClass R_L = some m.cls := findClass_of_methodNamed B.named
  have hlocks := B.notSynchronized
  subst hsz
  have hD := ow_D (sz := s.heap.size) hD0
  have hl := lv_entry ([.ref (ad 0), .int n, .int what, .ref ao]) (n := 5) (Nat.le_of_ble_eq_true rfl)
  rw [lg_entry_eq]
  generalize (lg_sl ([.ref (ad 0), .int n, .int what, .ref ao]) ++ List.replicate (5 - (lg_sl ([.ref (ad 0), .int n, .int what, .ref ao])).length) Slot.unset).toArray = ls at hl ⊢
  have hl : lv_has ls 5 [(0, .ref (ad 0)), (1, .int n), (2, .int what), (3, .ref ao)] := hl
  obtain ⟨m9, meth9, c9, hn9, hm9, hc9, -, -, hh9, -⟩ := Cond.codeWith_spec (hts _ List.mem_cons_self)
  cases B.named.symm.trans hn9
  cases B.method.symm.trans hm9
  cases (Stand.of_body B).code.symm.trans hc9
  have hrows := rows_of hh9
  refine lv_aload_n hx hb d_L_ticket_0 rfl (lv_at hl 3 rfl) ?_
  refine lv_iconst (v := nI 0) hx hb d_L_ticket_1 (by decide) ?_
  refine lv_aload_n hx hb d_L_ticket_2 rfl (lv_at hl 0 rfl) ?_
  refine lv_iload_n hx hb d_L_ticket_3 rfl (lv_at hl 1 rfl) ?_
  refine lv_iload_n hx hb d_L_ticket_4 rfl (lv_at hl 2 rfl) ?_
  have hPc := hP.sub (ws' := (xw ad cd w wr fl (nI 1) (-1) lw rot vb (nI 0) (nI 0) live row (-1) (nI 0) (nI 0) (nI 0) bts (nI 0) act (nI 0) (nI 0))) [1, 2, 3, 4, 5, 6, 7, 8, 9, 10, 11, 12, 13, 14, 15] rfl
  have hKc := hK.sub (tys' := (xt cd)) [1, 2, 3, 4, 5, 6, 7, 8, 9, 10] rfl
  refine th_catch2 (y := ⟨0, 10, 13, 15⟩) (x := ⟨0, 10, 17, 32⟩) (rest := [.int (nI 0), .ref ao]) (N := E_S) hrows (by decide) (by decide) (by decide) (by decide) hown (hts (.classLink R_L 15 E_S) (List.mem_cons_of_mem _ t_266)) hc (hts (.classLink R_L 32 E_I) (List.mem_cons_of_mem _ t_486)) (va_Nw.use rfl hn.1.2.2) (fun T hT X => th_runV (C := R_R) (As := [.int n, .int what]) (rest := [.int (nI 0), .ref ao]) ⟨hx, hb, hml, hown, hts⟩ (th_R_ticket l hl9 dC dI ad cd az w wr fl (nI 1) (-1) lw rot vb (nI 0) (nI 0) live row (-1) (nI 0) (nI 0) (nI 0) bts (nI 0) act (nI 0) (nI 0) n what ) (cwV 2 hts (g_V t_487 t_488 t_489 t_1 t_490) rfl rfl rfl (by decide +kernel) ⟨by decide, by decide⟩) (xT_v hPc hKc hz hn 0 rfl rfl) rfl rfl hl.1 rfl (lv_room (Nat.le_of_ble_eq_true rfl)) d_L_ticket_5 ⟨by decide, by decide⟩ hT X) (fun q H1 hz1 hk1 => ?_)
  have hP1 : va_P (dC, dI) vwCl ((ao, .inl (co, 1, .inr (.inl fo))) :: (xw ad cd w wr fl (nI 1) (-1) lw rot vb (nI 0) (nI 0) live row (-1) (nI 0) (nI 0) (nI 0) bts (nI 0) act (nI 0) (nI 0))) H1 := hP.kept (fun k q hk => hk1 _ ((hP k q hk).lt))
  have hS1 : va_S (oA ao ad s.heap.size) s.heap H1 [] := ⟨hz1, fun q h1 _ => hk1 q h1, fun _ h => by cases h⟩
  refine W.eq (g2 := F0 m 17 ls [.ref q]) rfl ?_
  refine lv_astore hx hb d_L_ticket_17 hl (by decide) rfl (fun ls hl => ?_)
  have hl : lv_has ls 5 [(4, .ref q), (0, .ref (ad 0)), (1, .int n), (2, .int what), (3, .ref ao)] := hl
  refine lv_iconst (v := nI 2) hx hb d_L_ticket_19 (by decide) ?_
  exact W.iret (v := nI 2) hx hb hr (fun t ht hW => ⟨⟨nI 2, (), rfl, rfl, ⟨by rw [ht]; exact hP1, va_K.moved hW.alike hK, hD⟩⟩, hS1.F ht⟩) hS1.2.2 d_L_ticket_20
set_option maxHeartbeats 4000000 in
set_option maxRecDepth 100000 in
theorem cb_L_wearOf (l : Launch) (hl9 : l.stackTraces = false) (dC : Nat → ClassId) (dI : Nat → Nat → Nat) (ad cd : Nat → Nat) (ao co : Nat) (sz az : Nat) (w wr fl : Nat → Int32) (pw sc : Int32) (lw rot vb : Nat → Int32) (rec tk : Int32) (live row : Nat → Int32) (cur ser dur wo : Int32) (bts : Nat → Int32) (us : Int32) (act : Nat → Int32) (rd rs : Int32) (fo : Nat → Int64) (b : Int32) (hok : ¬ (nI 0 ≤ b ∧ b ≤ nI 7)) : Met l y_L_wearOf w_L_wearOf ({ frames := 8, cells := 1, slots := 6, locals := 141 }) (oP (dC, dI) vwCl ((co, .long) :: xt cd) ((ao, .inl (co, 1, .inr (.inl fo))) :: (xw ad cd w wr fl (nI 1) (-1) lw rot vb (nI 0) (nI 0) live row (-1) (nI 0) (nI 0) (nI 0) bts (nI 0) act (nI 0) (nI 0))) sz az [.ref (ad 0), .int b, .ref ao]) (va_Qi (fun r (u : Unit) => r = nI 1) (fun (u : Unit) (t : State) => xB (dC, dI) vwCl ((co, .long) :: xt cd) (oA ao ad sz) ((ao, .inl (co, 1, .inr (.inl fo))) :: (xw ad cd w wr fl (nI 1) (-1) lw rot vb (nI 0) (nI 0) live row (-1) (nI 0) (nI 0) (nI 0) bts (nI 0) act (nI 0) (nI 0))) t) (oA ao ad sz)) 1 6 (oA ao ad sz) := by
  refine va_MetW (cc := b_L_wearOf) (maxL := 4) (ret := (some (.int))) (by decide) rfl ?_
  intro P e s m args below meth c0 s₁ B hml hv
  obtain ⟨rfl, hsz, hP, hK, hD0, hz, hn, hc⟩ := hv
  have hx := B.exec
  have hb := B.bytes
  have hr := B.returns
  have hts := atoms_spec (ws := w_L_wearOf) B.pre
  have hown : s.vm.findClass R_L = some m.cls := findClass_of_methodNamed B.named
  have hlocks := B.notSynchronized
  subst hsz
  have hD := ow_D (sz := s.heap.size) hD0
  have hl := lv_entry ([.ref (ad 0), .int b, .ref ao]) (n := 4) (Nat.le_of_ble_eq_true rfl)
  rw [lg_entry_eq]
  generalize (lg_sl ([.ref (ad 0), .int b, .ref ao]) ++ List.replicate (4 - (lg_sl ([.ref (ad 0), .int b, .ref ao])).length) Slot.unset).toArray = ls at hl ⊢
  have hl : lv_has ls 4 [(0, .ref (ad 0)), (1, .int b), (2, .ref ao)] := hl
  obtain ⟨m9, meth9, c9, hn9, hm9, hc9, -, -, hh9, -⟩ := Cond.codeWith_spec (hts _ List.mem_cons_self)
  cases B.named.symm.trans hn9
  cases B.method.symm.trans hm9
  cases (Stand.of_body B).code.symm.trans hc9
  have hrows := rows_of hh9
  refine lv_aload_n hx hb d_L_wearOf_0 rfl (lv_at hl 2 rfl) ?_
  refine lv_iconst (v := nI 0) hx hb d_L_wearOf_1 (by decide) ?_
  refine lv_aload_n hx hb d_L_wearOf_2 rfl (lv_at hl 0 rfl) ?_
  refine lv_iload_n hx hb d_L_wearOf_3 rfl (lv_at hl 1 rfl) ?_
  have hPc := hP.sub (ws' := (xw ad cd w wr fl (nI 1) (-1) lw rot vb (nI 0) (nI 0) live row (-1) (nI 0) (nI 0) (nI 0) bts (nI 0) act (nI 0) (nI 0))) [1, 2, 3, 4, 5, 6, 7, 8, 9, 10, 11, 12, 13, 14, 15] rfl
  have hKc := hK.sub (tys' := (xt cd)) [1, 2, 3, 4, 5, 6, 7, 8, 9, 10] rfl
  refine th_catch1 (x := ⟨0, 9, 12, 13⟩) (rest := [.int (nI 0), .ref ao]) hrows (by decide) (by decide) hown (hts (.classLink R_L 13 E_A) (List.mem_cons_of_mem _ t_265)) (va_Nw.use rfl hn.1.1) (fun T hT X => th_runV (C := R_R) (As := [.int b]) (rest := [.int (nI 0), .ref ao]) ⟨hx, hb, hml, hown, hts⟩ (th_R_wearOf l hl9 dC dI ad cd az w wr fl (nI 1) (-1) lw rot vb (nI 0) (nI 0) live row (-1) (nI 0) (nI 0) (nI 0) bts (nI 0) act (nI 0) (nI 0) b hok) (cwV 1 hts (g_V t_661 t_662 t_663 t_1 t_664) rfl rfl rfl (by decide +kernel) ⟨by decide, by decide⟩) (xT_v hPc hKc hz hn 0 rfl rfl) rfl rfl hl.1 rfl (lv_room (Nat.le_of_ble_eq_true rfl)) d_L_wearOf_4 ⟨by decide, by decide⟩ hT X) (fun q H1 hz1 hk1 => ?_)
  have hP1 : va_P (dC, dI) vwCl ((ao, .inl (co, 1, .inr (.inl fo))) :: (xw ad cd w wr fl (nI 1) (-1) lw rot vb (nI 0) (nI 0) live row (-1) (nI 0) (nI 0) (nI 0) bts (nI 0) act (nI 0) (nI 0))) H1 := hP.kept (fun k q hk => hk1 _ ((hP k q hk).lt))
  have hS1 : va_S (oA ao ad s.heap.size) s.heap H1 [] := ⟨hz1, fun q h1 _ => hk1 q h1, fun _ h => by cases h⟩
  refine W.eq (g2 := F0 m 12 ls [.ref q]) rfl ?_
  refine lv_astore_n hx hb d_L_wearOf_12 rfl hl (by decide) rfl (fun ls hl => ?_)
  have hl : lv_has ls 4 [(3, .ref q), (0, .ref (ad 0)), (1, .int b), (2, .ref ao)] := hl
  refine lv_iconst (v := nI 1) hx hb d_L_wearOf_13 (by decide) ?_
  exact W.iret (v := nI 1) hx hb hr (fun t ht hW => ⟨⟨nI 1, (), rfl, rfl, ⟨by rw [ht]; exact hP1, va_K.moved hW.alike hK, hD⟩⟩, hS1.F ht⟩) hS1.2.2 d_L_wearOf_14
set_option maxHeartbeats 4000000 in
set_option maxRecDepth 100000 in
theorem cb_L_word (l : Launch) (hl9 : l.stackTraces = false) (dC : Nat → ClassId) (dI : Nat → Nat → Nat) (ad cd : Nat → Nat) (ao co : Nat) (sz az : Nat) (w wr fl : Nat → Int32) (pw sc : Int32) (lw rot vb : Nat → Int32) (rec tk : Int32) (live row : Nat → Int32) (cur ser dur wo : Int32) (bts : Nat → Int32) (us : Int32) (act : Nat → Int32) (rd rs : Int32) (fo : Nat → Int64) (pa wo_ : Int32) (hbad : ¬ ((nI 0 ≤ pa ∧ pa ≤ nI 31) ∧ (nI 0 ≤ wo_ ∧ wo_ ≤ nI 15))) : Met l y_L_word w_L_word ({ frames := 8, cells := 1, slots := 6, locals := 142 }) (oP (dC, dI) vwCl ((co, .long) :: xt cd) ((ao, .inl (co, 1, .inr (.inl fo))) :: (xw ad cd w wr fl (nI 1) (-1) lw rot vb (nI 0) (nI 0) live row (-1) (nI 0) (nI 0) (nI 0) bts (nI 0) act (nI 0) (nI 0))) sz az [.ref (ad 0), .int pa, .int wo_, .ref ao]) (va_Qi (fun r (u : Unit) => r = nI 1) (fun (u : Unit) (t : State) => xB (dC, dI) vwCl ((co, .long) :: xt cd) (oA ao ad sz) ((ao, .inl (co, 1, .inr (.inl fo))) :: (xw ad cd w wr fl (nI 1) (-1) lw rot vb (nI 0) (nI 0) live row (-1) (nI 0) (nI 0) (nI 0) bts (nI 0) act (nI 0) (nI 0))) t) (oA ao ad sz)) 1 6 (oA ao ad sz) := by
  refine va_MetW (cc := b_L_word) (maxL := 5) (ret := (some (.int))) (by decide) rfl ?_
  intro P e s m args below meth c0 s₁ B hml hv
  obtain ⟨rfl, hsz, hP, hK, hD0, hz, hn, hc⟩ := hv
  have hx := B.exec
  have hb := B.bytes
  have hr := B.returns
  have hts := atoms_spec (ws := w_L_word) B.pre
  have hown : s.vm.findClass R_L = some m.cls := findClass_of_methodNamed B.named
  have hlocks := B.notSynchronized
  subst hsz
  have hD := ow_D (sz := s.heap.size) hD0
  have hl := lv_entry ([.ref (ad 0), .int pa, .int wo_, .ref ao]) (n := 5) (Nat.le_of_ble_eq_true rfl)
  rw [lg_entry_eq]
  generalize (lg_sl ([.ref (ad 0), .int pa, .int wo_, .ref ao]) ++ List.replicate (5 - (lg_sl ([.ref (ad 0), .int pa, .int wo_, .ref ao])).length) Slot.unset).toArray = ls at hl ⊢
  have hl : lv_has ls 5 [(0, .ref (ad 0)), (1, .int pa), (2, .int wo_), (3, .ref ao)] := hl
  obtain ⟨m9, meth9, c9, hn9, hm9, hc9, -, -, hh9, -⟩ := Cond.codeWith_spec (hts _ List.mem_cons_self)
  cases B.named.symm.trans hn9
  cases B.method.symm.trans hm9
  cases (Stand.of_body B).code.symm.trans hc9
  have hrows := rows_of hh9
  refine lv_aload_n hx hb d_L_word_0 rfl (lv_at hl 3 rfl) ?_
  refine lv_iconst (v := nI 0) hx hb d_L_word_1 (by decide) ?_
  refine lv_aload_n hx hb d_L_word_2 rfl (lv_at hl 0 rfl) ?_
  refine lv_iload_n hx hb d_L_word_3 rfl (lv_at hl 1 rfl) ?_
  refine lv_iload_n hx hb d_L_word_4 rfl (lv_at hl 2 rfl) ?_
  have hPc := hP.sub (ws' := (xw ad cd w wr fl (nI 1) (-1) lw rot vb (nI 0) (nI 0) live row (-1) (nI 0) (nI 0) (nI 0) bts (nI 0) act (nI 0) (nI 0))) [1, 2, 3, 4, 5, 6, 7, 8, 9, 10, 11, 12, 13, 14, 15] rfl
  have hKc := hK.sub (tys' := (xt cd)) [1, 2, 3, 4, 5, 6, 7, 8, 9, 10] rfl
  refine th_catch1 (x := ⟨0, 10, 13, 32⟩) (rest := [.int (nI 0), .ref ao]) hrows (by decide) (by decide) hown (hts (.classLink R_L 32 E_I) (List.mem_cons_of_mem _ t_486)) (va_Nw.use rfl hn.1.2.2) (fun T hT X => th_runV (C := R_R) (As := [.int pa, .int wo_]) (rest := [.int (nI 0), .ref ao]) ⟨hx, hb, hml, hown, hts⟩ (th_R_word l hl9 dC dI ad cd az w wr fl (nI 1) (-1) lw rot vb (nI 0) (nI 0) live row (-1) (nI 0) (nI 0) (nI 0) bts (nI 0) act (nI 0) (nI 0) pa wo_ hbad) (cwV 2 hts (g_V t_697 t_698 t_699 t_1 t_700) rfl rfl rfl (by decide +kernel) ⟨by decide, by decide⟩) (xT_v hPc hKc hz hn 0 rfl rfl) rfl rfl hl.1 rfl (lv_room (Nat.le_of_ble_eq_true rfl)) d_L_word_5 ⟨by decide, by decide⟩ hT X) (fun q H1 hz1 hk1 => ?_)
  have hP1 : va_P (dC, dI) vwCl ((ao, .inl (co, 1, .inr (.inl fo))) :: (xw ad cd w wr fl (nI 1) (-1) lw rot vb (nI 0) (nI 0) live row (-1) (nI 0) (nI 0) (nI 0) bts (nI 0) act (nI 0) (nI 0))) H1 := hP.kept (fun k q hk => hk1 _ ((hP k q hk).lt))
  have hS1 : va_S (oA ao ad s.heap.size) s.heap H1 [] := ⟨hz1, fun q h1 _ => hk1 q h1, fun _ h => by cases h⟩
  refine W.eq (g2 := F0 m 13 ls [.ref q]) rfl ?_
  refine lv_astore hx hb d_L_word_13 hl (by decide) rfl (fun ls hl => ?_)
  have hl : lv_has ls 5 [(4, .ref q), (0, .ref (ad 0)), (1, .int pa), (2, .int wo_), (3, .ref ao)] := hl
  refine lv_iconst (v := nI 1) hx hb d_L_word_15 (by decide) ?_
  exact W.iret (v := nI 1) hx hb hr (fun t ht hW => ⟨⟨nI 1, (), rfl, rfl, ⟨by rw [ht]; exact hP1, va_K.moved hW.alike hK, hD⟩⟩, hS1.F ht⟩) hS1.2.2 d_L_word_16
set_option maxHeartbeats 4000000 in
set_option maxRecDepth 100000 in
theorem cb_L_setProduct (l : Launch) (hl9 : l.stackTraces = false) (dC : Nat → ClassId) (dI : Nat → Nat → Nat) (ad cd : Nat → Nat) (sz az : Nat) (w wr fl : Nat → Int32) (pw sc : Int32) (lw rot vb : Nat → Int32) (rec tk : Int32) (live row : Nat → Int32) (cur ser dur wo : Int32) (bts : Nat → Int32) (us : Int32) (act : Nat → Int32) (rd rs : Int32) (co b : Int32) (hok : ¬ (nI 0 ≤ co ∧ co ≤ nI 39)) : Met l y_L_setProduct w_L_setProduct ({ frames := 8, cells := 1, slots := 6, locals := 142 }) (oP (dC, dI) vwCl (xt cd) (xw ad cd w wr fl (nI 1) (-1) lw rot vb (nI 0) (nI 0) live row (-1) (nI 0) (nI 0) (nI 0) bts (nI 0) act (nI 0) (nI 0)) sz az [.ref (ad 0), .int co, .int b]) (va_Qi (fun r (u : Unit) => r = nI 1) (fun (u : Unit) (t : State) => xB (dC, dI) vwCl (xt cd) (xA 15 ad sz) (xw ad cd w wr fl (nI 1) (-1) lw rot vb (nI 0) (nI 0) live row (-1) (nI 0) (nI 0) (nI 0) bts (nI 0) act (nI 0) (nI 0)) t) (xA 15 ad sz)) 1 6 (xA 15 ad sz) := by
  refine va_MetW (cc := b_L_setProduct) (maxL := 4) (ret := (some (.int))) (by decide) rfl ?_
  intro P e s m args below meth c0 s₁ B hml hv
  obtain ⟨rfl, hsz, hP, hK, hD0, hz, hn, hc⟩ := hv
  have hx := B.exec
  have hb := B.bytes
  have hr := B.returns
  have hts := atoms_spec (ws := w_L_setProduct) B.pre
  have hown : s.vm.findClass R_L = some m.cls := findClass_of_methodNamed B.named
  have hlocks := B.notSynchronized
  subst hsz
  have hD := xw_D (sz := s.heap.size) hD0
  have hl := lv_entry ([.ref (ad 0), .int co, .int b]) (n := 4) (Nat.le_of_ble_eq_true rfl)
  rw [lg_entry_eq]
  generalize (lg_sl ([.ref (ad 0), .int co, .int b]) ++ List.replicate (4 - (lg_sl ([.ref (ad 0), .int co, .int b])).length) Slot.unset).toArray = ls at hl ⊢
  have hl : lv_has ls 4 [(0, .ref (ad 0)), (1, .int co), (2, .int b)] := hl
  obtain ⟨m9, meth9, c9, hn9, hm9, hc9, -, -, hh9, -⟩ := Cond.codeWith_spec (hts _ List.mem_cons_self)
  cases B.named.symm.trans hn9
  cases B.method.symm.trans hm9
  cases (Stand.of_body B).code.symm.trans hc9
  have hrows := rows_of hh9
  refine lv_aload_n hx hb d_L_setProduct_0 rfl (lv_at hl 0 rfl) ?_
  refine lv_iload_n hx hb d_L_setProduct_1 rfl (lv_at hl 1 rfl) ?_
  refine lv_iload_n hx hb d_L_setProduct_2 rfl (lv_at hl 2 rfl) ?_
  have hPc := hP.sub (ws' := (xw ad cd w wr fl (nI 1) (-1) lw rot vb (nI 0) (nI 0) live row (-1) (nI 0) (nI 0) (nI 0) bts (nI 0) act (nI 0) (nI 0))) [0, 1, 2, 3, 4, 5, 6, 7, 8, 9, 10, 11, 12, 13, 14] rfl
  have hKc := hK.sub (tys' := (xt cd)) [0, 1, 2, 3, 4, 5, 6, 7, 8, 9] rfl
  refine th_catch1 (x := ⟨0, 6, 9, 13⟩) (rest := []) hrows (by decide) (by decide) hown (hts (.classLink R_L 13 E_A) (List.mem_cons_of_mem _ t_265)) (va_Nw.use rfl hn.1.1) (fun T hT X => th_runV (C := R_R) (As := [.int co, .int b]) (rest := []) ⟨hx, hb, hml, hown, hts⟩ (th_R_setProduct l hl9 dC dI ad cd az w wr fl (nI 1) (-1) lw rot vb (nI 0) (nI 0) live row (-1) (nI 0) (nI 0) (nI 0) bts (nI 0) act (nI 0) (nI 0) co b hok) (cwV 2 hts (g_V t_643 t_644 t_645 t_1 t_646) rfl rfl rfl (by decide +kernel) ⟨by decide, by decide⟩) (xT_v hPc hKc hz hn 0 rfl rfl) rfl rfl hl.1 rfl (lv_room (Nat.le_of_ble_eq_true rfl)) d_L_setProduct_3 ⟨by decide, by decide⟩ hT X) (fun q H1 hz1 hk1 => ?_)
  have hP1 : va_P (dC, dI) vwCl (xw ad cd w wr fl (nI 1) (-1) lw rot vb (nI 0) (nI 0) live row (-1) (nI 0) (nI 0) (nI 0) bts (nI 0) act (nI 0) (nI 0)) H1 := hP.kept (fun k q hk => hk1 _ ((hP k q hk).lt))
  have hS1 : va_S (xA 15 ad s.heap.size) s.heap H1 [] := ⟨hz1, fun q h1 _ => hk1 q h1, fun _ h => by cases h⟩
  refine W.eq (g2 := F0 m 9 ls [.ref q]) rfl ?_
  refine lv_astore_n hx hb d_L_setProduct_9 rfl hl (by decide) rfl (fun ls hl => ?_)
  have hl : lv_has ls 4 [(3, .ref q), (0, .ref (ad 0)), (1, .int co), (2, .int b)] := hl
  refine lv_iconst (v := nI 1) hx hb d_L_setProduct_10 (by decide) ?_
  exact W.iret (v := nI 1) hx hb hr (fun t ht hW => ⟨⟨nI 1, (), rfl, rfl, ⟨by rw [ht]; exact hP1, va_K.moved hW.alike hK, hD⟩⟩, hS1.F ht⟩) hS1.2.2 d_L_setProduct_11
set_option maxHeartbeats 4000000 in
set_option maxRecDepth 100000 in
theorem cb_L_cutAfter (l : Launch) (hl9 : l.stackTraces = false) (dC : Nat → ClassId) (dI : Nat → Nat → Nat) (ad cd : Nat → Nat) (sz az : Nat) (w wr fl : Nat → Int32) (pw sc : Int32) (lw rot vb : Nat → Int32) (rec tk : Int32) (live row : Nat → Int32) (cur ser dur wo : Int32) (bts : Nat → Int32) (us : Int32) (act : Nat → Int32) (rd rs : Int32) (n : Int32) (hok : ¬ (nI 0 ≤ n ∧ n ≤ nI 300)) : Met l y_L_cutAfter w_L_cutAfter ({ frames := 8, cells := 1, slots := 6, locals := 141 }) (oP (dC, dI) vwCl (xt cd) (xw ad cd w wr fl (nI 1) (-1) lw rot vb (nI 0) (nI 0) live row (-1) (nI 0) (nI 0) (nI 0) bts (nI 0) act (nI 0) (nI 0)) sz az [.ref (ad 0), .int n]) (va_Qi (fun r (u : Unit) => r = nI 1) (fun (u : Unit) (t : State) => xB (dC, dI) vwCl (xt cd) (xA 15 ad sz) (xw ad cd w wr fl (nI 1) (-1) lw rot vb (nI 0) (nI 0) live row (-1) (nI 0) (nI 0) (nI 0) bts (nI 0) act (nI 0) (nI 0)) t) (xA 15 ad sz)) 1 6 (xA 15 ad sz) := by
  refine va_MetW (cc := b_L_cutAfter) (maxL := 3) (ret := (some (.int))) (by decide) rfl ?_
  intro P e s m args below meth c0 s₁ B hml hv
  obtain ⟨rfl, hsz, hP, hK, hD0, hz, hn, hc⟩ := hv
  have hx := B.exec
  have hb := B.bytes
  have hr := B.returns
  have hts := atoms_spec (ws := w_L_cutAfter) B.pre
  have hown : s.vm.findClass R_L = some m.cls := findClass_of_methodNamed B.named
  have hlocks := B.notSynchronized
  subst hsz
  have hD := xw_D (sz := s.heap.size) hD0
  have hl := lv_entry ([.ref (ad 0), .int n]) (n := 3) (Nat.le_of_ble_eq_true rfl)
  rw [lg_entry_eq]
  generalize (lg_sl ([.ref (ad 0), .int n]) ++ List.replicate (3 - (lg_sl ([.ref (ad 0), .int n])).length) Slot.unset).toArray = ls at hl ⊢
  have hl : lv_has ls 3 [(0, .ref (ad 0)), (1, .int n)] := hl
  obtain ⟨m9, meth9, c9, hn9, hm9, hc9, -, -, hh9, -⟩ := Cond.codeWith_spec (hts _ List.mem_cons_self)
  cases B.named.symm.trans hn9
  cases B.method.symm.trans hm9
  cases (Stand.of_body B).code.symm.trans hc9
  have hrows := rows_of hh9
  refine lv_aload_n hx hb d_L_cutAfter_0 rfl (lv_at hl 0 rfl) ?_
  refine lv_iload_n hx hb d_L_cutAfter_1 rfl (lv_at hl 1 rfl) ?_
  have hPc := hP.sub (ws' := (xw ad cd w wr fl (nI 1) (-1) lw rot vb (nI 0) (nI 0) live row (-1) (nI 0) (nI 0) (nI 0) bts (nI 0) act (nI 0) (nI 0))) [0, 1, 2, 3, 4, 5, 6, 7, 8, 9, 10, 11, 12, 13, 14] rfl
  have hKc := hK.sub (tys' := (xt cd)) [0, 1, 2, 3, 4, 5, 6, 7, 8, 9] rfl
  refine th_catch1 (x := ⟨0, 5, 8, 13⟩) (rest := []) hrows (by decide) (by decide) hown (hts (.classLink R_L 13 E_A) (List.mem_cons_of_mem _ t_265)) (va_Nw.use rfl hn.1.1) (fun T hT X => th_runV (C := R_R) (As := [.int n]) (rest := []) ⟨hx, hb, hml, hown, hts⟩ (th_R_cutAfter l hl9 dC dI ad cd az w wr fl (nI 1) (-1) lw rot vb (nI 0) (nI 0) live row (-1) (nI 0) (nI 0) (nI 0) bts (nI 0) act (nI 0) (nI 0) n hok) (cwV 1 hts (g_V t_650 t_651 t_652 t_1 t_653) rfl rfl rfl (by decide +kernel) ⟨by decide, by decide⟩) (xT_v hPc hKc hz hn 0 rfl rfl) rfl rfl hl.1 rfl (lv_room (Nat.le_of_ble_eq_true rfl)) d_L_cutAfter_2 ⟨by decide, by decide⟩ hT X) (fun q H1 hz1 hk1 => ?_)
  have hP1 : va_P (dC, dI) vwCl (xw ad cd w wr fl (nI 1) (-1) lw rot vb (nI 0) (nI 0) live row (-1) (nI 0) (nI 0) (nI 0) bts (nI 0) act (nI 0) (nI 0)) H1 := hP.kept (fun k q hk => hk1 _ ((hP k q hk).lt))
  have hS1 : va_S (xA 15 ad s.heap.size) s.heap H1 [] := ⟨hz1, fun q h1 _ => hk1 q h1, fun _ h => by cases h⟩
  refine W.eq (g2 := F0 m 8 ls [.ref q]) rfl ?_
  refine lv_astore_n hx hb d_L_cutAfter_8 rfl hl (by decide) rfl (fun ls hl => ?_)
  have hl : lv_has ls 3 [(2, .ref q), (0, .ref (ad 0)), (1, .int n)] := hl
  refine lv_iconst (v := nI 1) hx hb d_L_cutAfter_9 (by decide) ?_
  exact W.iret (v := nI 1) hx hb hr (fun t ht hW => ⟨⟨nI 1, (), rfl, rfl, ⟨by rw [ht]; exact hP1, va_K.moved hW.alike hK, hD⟩⟩, hS1.F ht⟩) hS1.2.2 d_L_cutAfter_10
set_option maxHeartbeats 4000000 in
set_option maxRecDepth 100000 in
theorem cb_L_failBlock (l : Launch) (hl9 : l.stackTraces = false) (dC : Nat → ClassId) (dI : Nat → Nat → Nat) (ad cd : Nat → Nat) (sz az : Nat) (w wr fl : Nat → Int32) (pw sc : Int32) (lw rot vb : Nat → Int32) (rec tk : Int32) (live row : Nat → Int32) (cur ser dur wo : Int32) (bts : Nat → Int32) (us : Int32) (act : Nat → Int32) (rd rs : Int32) (b : Int32) (hok : ¬ (nI 0 ≤ b ∧ b ≤ nI 7)) : Met l y_L_failBlock w_L_failBlock ({ frames := 8, cells := 1, slots := 6, locals := 141 }) (oP (dC, dI) vwCl (xt cd) (xw ad cd w wr fl (nI 1) (-1) lw rot vb (nI 0) (nI 0) live row (-1) (nI 0) (nI 0) (nI 0) bts (nI 0) act (nI 0) (nI 0)) sz az [.ref (ad 0), .int b]) (va_Qi (fun r (u : Unit) => r = nI 1) (fun (u : Unit) (t : State) => xB (dC, dI) vwCl (xt cd) (xA 15 ad sz) (xw ad cd w wr fl (nI 1) (-1) lw rot vb (nI 0) (nI 0) live row (-1) (nI 0) (nI 0) (nI 0) bts (nI 0) act (nI 0) (nI 0)) t) (xA 15 ad sz)) 1 6 (xA 15 ad sz) := by
  refine va_MetW (cc := b_L_failBlock) (maxL := 3) (ret := (some (.int))) (by decide) rfl ?_
  intro P e s m args below meth c0 s₁ B hml hv
  obtain ⟨rfl, hsz, hP, hK, hD0, hz, hn, hc⟩ := hv
  have hx := B.exec
  have hb := B.bytes
  have hr := B.returns
  have hts := atoms_spec (ws := w_L_failBlock) B.pre
  have hown : s.vm.findClass R_L = some m.cls := findClass_of_methodNamed B.named
  have hlocks := B.notSynchronized
  subst hsz
  have hD := xw_D (sz := s.heap.size) hD0
  have hl := lv_entry ([.ref (ad 0), .int b]) (n := 3) (Nat.le_of_ble_eq_true rfl)
  rw [lg_entry_eq]
  generalize (lg_sl ([.ref (ad 0), .int b]) ++ List.replicate (3 - (lg_sl ([.ref (ad 0), .int b])).length) Slot.unset).toArray = ls at hl ⊢
  have hl : lv_has ls 3 [(0, .ref (ad 0)), (1, .int b)] := hl
  obtain ⟨m9, meth9, c9, hn9, hm9, hc9, -, -, hh9, -⟩ := Cond.codeWith_spec (hts _ List.mem_cons_self)
  cases B.named.symm.trans hn9
  cases B.method.symm.trans hm9
  cases (Stand.of_body B).code.symm.trans hc9
  have hrows := rows_of hh9
  refine lv_aload_n hx hb d_L_failBlock_0 rfl (lv_at hl 0 rfl) ?_
  refine lv_iload_n hx hb d_L_failBlock_1 rfl (lv_at hl 1 rfl) ?_
  have hPc := hP.sub (ws' := (xw ad cd w wr fl (nI 1) (-1) lw rot vb (nI 0) (nI 0) live row (-1) (nI 0) (nI 0) (nI 0) bts (nI 0) act (nI 0) (nI 0))) [0, 1, 2, 3, 4, 5, 6, 7, 8, 9, 10, 11, 12, 13, 14] rfl
  have hKc := hK.sub (tys' := (xt cd)) [0, 1, 2, 3, 4, 5, 6, 7, 8, 9] rfl
  refine th_catch1 (x := ⟨0, 5, 8, 13⟩) (rest := []) hrows (by decide) (by decide) hown (hts (.classLink R_L 13 E_A) (List.mem_cons_of_mem _ t_265)) (va_Nw.use rfl hn.1.1) (fun T hT X => th_runV (C := R_R) (As := [.int b]) (rest := []) ⟨hx, hb, hml, hown, hts⟩ (th_R_failBlock l hl9 dC dI ad cd az w wr fl (nI 1) (-1) lw rot vb (nI 0) (nI 0) live row (-1) (nI 0) (nI 0) (nI 0) bts (nI 0) act (nI 0) (nI 0) b hok) (cwV 1 hts (g_V t_672 t_673 t_674 t_1 t_675) rfl rfl rfl (by decide +kernel) ⟨by decide, by decide⟩) (xT_v hPc hKc hz hn 0 rfl rfl) rfl rfl hl.1 rfl (lv_room (Nat.le_of_ble_eq_true rfl)) d_L_failBlock_2 ⟨by decide, by decide⟩ hT X) (fun q H1 hz1 hk1 => ?_)
  have hP1 : va_P (dC, dI) vwCl (xw ad cd w wr fl (nI 1) (-1) lw rot vb (nI 0) (nI 0) live row (-1) (nI 0) (nI 0) (nI 0) bts (nI 0) act (nI 0) (nI 0)) H1 := hP.kept (fun k q hk => hk1 _ ((hP k q hk).lt))
  have hS1 : va_S (xA 15 ad s.heap.size) s.heap H1 [] := ⟨hz1, fun q h1 _ => hk1 q h1, fun _ h => by cases h⟩
  refine W.eq (g2 := F0 m 8 ls [.ref q]) rfl ?_
  refine lv_astore_n hx hb d_L_failBlock_8 rfl hl (by decide) rfl (fun ls hl => ?_)
  have hl : lv_has ls 3 [(2, .ref q), (0, .ref (ad 0)), (1, .int b)] := hl
  refine lv_iconst (v := nI 1) hx hb d_L_failBlock_9 (by decide) ?_
  exact W.iret (v := nI 1) hx hb hr (fun t ht hW => ⟨⟨nI 1, (), rfl, rfl, ⟨by rw [ht]; exact hP1, va_K.moved hW.alike hK, hD⟩⟩, hS1.F ht⟩) hS1.2.2 d_L_failBlock_10
set_option maxHeartbeats 4000000 in
set_option maxRecDepth 100000 in
theorem cb_L_poke (l : Launch) (hl9 : l.stackTraces = false) (dC : Nat → ClassId) (dI : Nat → Nat → Nat) (ad cd : Nat → Nat) (sz az : Nat) (w wr fl : Nat → Int32) (pw sc : Int32) (lw rot vb : Nat → Int32) (rec tk : Int32) (live row : Nat → Int32) (cur ser dur wo : Int32) (bts : Nat → Int32) (us : Int32) (act : Nat → Int32) (rd rs : Int32) (pa wo_ mask : Int32) (hbad : ¬ ((nI 0 ≤ pa ∧ pa ≤ nI 31) ∧ (nI 0 ≤ wo_ ∧ wo_ ≤ nI 15))) : Met l y_L_poke w_L_poke ({ frames := 8, cells := 1, slots := 6, locals := 143 }) (oP (dC, dI) vwCl (xt cd) (xw ad cd w wr fl (nI 1) (-1) lw rot vb (nI 0) (nI 0) live row (-1) (nI 0) (nI 0) (nI 0) bts (nI 0) act (nI 0) (nI 0)) sz az [.ref (ad 0), .int pa, .int wo_, .int mask]) (va_Qi (fun r (u : Unit) => r = nI 1) (fun (u : Unit) (t : State) => xB (dC, dI) vwCl (xt cd) (xA 15 ad sz) (xw ad cd w wr fl (nI 1) (-1) lw rot vb (nI 0) (nI 0) live row (-1) (nI 0) (nI 0) (nI 0) bts (nI 0) act (nI 0) (nI 0)) t) (xA 15 ad sz)) 1 6 (xA 15 ad sz) := by
  refine va_MetW (cc := b_L_poke) (maxL := 5) (ret := (some (.int))) (by decide) rfl ?_
  intro P e s m args below meth c0 s₁ B hml hv
  obtain ⟨rfl, hsz, hP, hK, hD0, hz, hn, hc⟩ := hv
  have hx := B.exec
  have hb := B.bytes
  have hr := B.returns
  have hts := atoms_spec (ws := w_L_poke) B.pre
  have hown : s.vm.findClass R_L = some m.cls := findClass_of_methodNamed B.named
  have hlocks := B.notSynchronized
  subst hsz
  have hD := xw_D (sz := s.heap.size) hD0
  have hl := lv_entry ([.ref (ad 0), .int pa, .int wo_, .int mask]) (n := 5) (Nat.le_of_ble_eq_true rfl)
  rw [lg_entry_eq]
  generalize (lg_sl ([.ref (ad 0), .int pa, .int wo_, .int mask]) ++ List.replicate (5 - (lg_sl ([.ref (ad 0), .int pa, .int wo_, .int mask])).length) Slot.unset).toArray = ls at hl ⊢
  have hl : lv_has ls 5 [(0, .ref (ad 0)), (1, .int pa), (2, .int wo_), (3, .int mask)] := hl
  obtain ⟨m9, meth9, c9, hn9, hm9, hc9, -, -, hh9, -⟩ := Cond.codeWith_spec (hts _ List.mem_cons_self)
  cases B.named.symm.trans hn9
  cases B.method.symm.trans hm9
  cases (Stand.of_body B).code.symm.trans hc9
  have hrows := rows_of hh9
  refine lv_aload_n hx hb d_L_poke_0 rfl (lv_at hl 0 rfl) ?_
  refine lv_iload_n hx hb d_L_poke_1 rfl (lv_at hl 1 rfl) ?_
  refine lv_iload_n hx hb d_L_poke_2 rfl (lv_at hl 2 rfl) ?_
  refine lv_iload_n hx hb d_L_poke_3 rfl (lv_at hl 3 rfl) ?_
  have hPc := hP.sub (ws' := (xw ad cd w wr fl (nI 1) (-1) lw rot vb (nI 0) (nI 0) live row (-1) (nI 0) (nI 0) (nI 0) bts (nI 0) act (nI 0) (nI 0))) [0, 1, 2, 3, 4, 5, 6, 7, 8, 9, 10, 11, 12, 13, 14] rfl
  have hKc := hK.sub (tys' := (xt cd)) [0, 1, 2, 3, 4, 5, 6, 7, 8, 9] rfl
  refine th_catch1 (x := ⟨0, 7, 10, 13⟩) (rest := []) hrows (by decide) (by decide) hown (hts (.classLink R_L 13 E_A) (List.mem_cons_of_mem _ t_265)) (va_Nw.use rfl hn.1.1) (fun T hT X => th_runV (C := R_R) (As := [.int pa, .int wo_, .int mask]) (rest := []) ⟨hx, hb, hml, hown, hts⟩ (th_R_poke l hl9 dC dI ad cd az w wr fl (nI 1) (-1) lw rot vb (nI 0) (nI 0) live row (-1) (nI 0) (nI 0) (nI 0) bts (nI 0) act (nI 0) (nI 0) pa wo_ mask hbad) (cwV 3 hts (g_V t_683 t_684 t_685 t_1 t_686) rfl rfl rfl (by decide +kernel) ⟨by decide, by decide⟩) (xT_v hPc hKc hz hn 0 rfl rfl) rfl rfl hl.1 rfl (lv_room (Nat.le_of_ble_eq_true rfl)) d_L_poke_4 ⟨by decide, by decide⟩ hT X) (fun q H1 hz1 hk1 => ?_)
  have hP1 : va_P (dC, dI) vwCl (xw ad cd w wr fl (nI 1) (-1) lw rot vb (nI 0) (nI 0) live row (-1) (nI 0) (nI 0) (nI 0) bts (nI 0) act (nI 0) (nI 0)) H1 := hP.kept (fun k q hk => hk1 _ ((hP k q hk).lt))
  have hS1 : va_S (xA 15 ad s.heap.size) s.heap H1 [] := ⟨hz1, fun q h1 _ => hk1 q h1, fun _ h => by cases h⟩
  refine W.eq (g2 := F0 m 10 ls [.ref q]) rfl ?_
  refine lv_astore hx hb d_L_poke_10 hl (by decide) rfl (fun ls hl => ?_)
  have hl : lv_has ls 5 [(4, .ref q), (0, .ref (ad 0)), (1, .int pa), (2, .int wo_), (3, .int mask)] := hl
  refine lv_iconst (v := nI 1) hx hb d_L_poke_12 (by decide) ?_
  exact W.iret (v := nI 1) hx hb hr (fun t ht hW => ⟨⟨nI 1, (), rfl, rfl, ⟨by rw [ht]; exact hP1, va_K.moved hW.alike hK, hD⟩⟩, hS1.F ht⟩) hS1.2.2 d_L_poke_13
end
