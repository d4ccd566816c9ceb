section
-- ===== PART A: goes FIRST, ahead of the names: the tables' words, and 'selects' of the private methods out of them =====
/-- a private method of a class that the tables say can be made, by its rows of tables_1 -/
def lw_okq (q : MethodName × Nat) : Prop := (q.1.cls ≠ "java/lang/invoke/MethodHandle" ∧ q.1.cls ≠ "java/lang/invoke/VarHandle") ∧ Cond.instantiable q.1.cls q.2 ∈ tables_1 ∧ Cond.privateMethod q.1 ∈ tables_1 ∧ Cond.instanceMethod q.1 ∈ tables_1
theorem lw_p0 : lw_okq (⟨"WeighRecorder", "forgetReadings", "()V"⟩, 7) := ⟨⟨by decide +kernel, by decide +kernel⟩, List.mem_of_getElem? (i := 15) (by decide +kernel), List.mem_of_getElem? (i := 149) (by decide +kernel), List.mem_of_getElem? (i := 150) (by decide +kernel)⟩
theorem lw_p1 : lw_okq (⟨"WeighRecorder$Store", "findNewestPages", "()I"⟩, 7) := ⟨⟨by decide +kernel, by decide +kernel⟩, List.mem_of_getElem? (i := 23) (by decide +kernel), List.mem_of_getElem? (i := 157) (by decide +kernel), List.mem_of_getElem? (i := 158) (by decide +kernel)⟩
theorem lw_p2 : lw_okq (⟨"WeighRecorder$Store", "newerOf", "(II)I"⟩, 7) := ⟨⟨by decide +kernel, by decide +kernel⟩, List.mem_of_getElem? (i := 23) (by decide +kernel), List.mem_of_getElem? (i := 175) (by decide +kernel), List.mem_of_getElem? (i := 176) (by decide +kernel)⟩
theorem lw_p3 : lw_okq (⟨"WeighRecorder$Store", "readLeaf", "(LWeighRecorder$Log;I)I"⟩, 7) := ⟨⟨by decide +kernel, by decide +kernel⟩, List.mem_of_getElem? (i := 23) (by decide +kernel), List.mem_of_getElem? (i := 183) (by decide +kernel), List.mem_of_getElem? (i := 184) (by decide +kernel)⟩
theorem lw_p4 : lw_okq (⟨"WeighRecorder$Log", "applyVoiding", "(II)V"⟩, 5) := ⟨⟨by decide +kernel, by decide +kernel⟩, List.mem_of_getElem? (i := 79) (by decide +kernel), List.mem_of_getElem? (i := 195) (by decide +kernel), List.mem_of_getElem? (i := 196) (by decide +kernel)⟩
theorem lw_p5 : lw_okq (⟨"WeighRecorder$Store", "isLive", "(I)Z"⟩, 7) := ⟨⟨by decide +kernel, by decide +kernel⟩, List.mem_of_getElem? (i := 23) (by decide +kernel), List.mem_of_getElem? (i := 239) (by decide +kernel), List.mem_of_getElem? (i := 240) (by decide +kernel)⟩
theorem lw_p6 : lw_okq (⟨"java/lang/Throwable", "fillInStackTrace", "(I)Ljava/lang/Throwable;"⟩, 6) := ⟨⟨by decide +kernel, by decide +kernel⟩, List.mem_of_getElem? (i := 314) (by decide +kernel), List.mem_of_getElem? (i := 312) (by decide +kernel), List.mem_of_getElem? (i := 313) (by decide +kernel)⟩
theorem lw_p7 : lw_okq (⟨"WeighRecorder", "append", "(III)I"⟩, 7) := ⟨⟨by decide +kernel, by decide +kernel⟩, List.mem_of_getElem? (i := 15) (by decide +kernel), List.mem_of_getElem? (i := 370) (by decide +kernel), List.mem_of_getElem? (i := 371) (by decide +kernel)⟩
theorem lw_p8 : lw_okq (⟨"WeighRecorder$Store", "freePageOfCursor", "()I"⟩, 7) := ⟨⟨by decide +kernel, by decide +kernel⟩, List.mem_of_getElem? (i := 23) (by decide +kernel), List.mem_of_getElem? (i := 392) (by decide +kernel), List.mem_of_getElem? (i := 393) (by decide +kernel)⟩
theorem lw_p9 : lw_okq (⟨"WeighRecorder$Store", "chooseVictim", "()I"⟩, 7) := ⟨⟨by decide +kernel, by decide +kernel⟩, List.mem_of_getElem? (i := 23) (by decide +kernel), List.mem_of_getElem? (i := 412) (by decide +kernel), List.mem_of_getElem? (i := 413) (by decide +kernel)⟩
theorem lw_p10 : lw_okq (⟨"WeighRecorder$Store", "stalePagesOf", "(I)I"⟩, 7) := ⟨⟨by decide +kernel, by decide +kernel⟩, List.mem_of_getElem? (i := 23) (by decide +kernel), List.mem_of_getElem? (i := 416) (by decide +kernel), List.mem_of_getElem? (i := 417) (by decide +kernel)⟩
theorem lw_p11 : lw_okq (⟨"WeighRecorder$Store", "reclaim", "(I)I"⟩, 7) := ⟨⟨by decide +kernel, by decide +kernel⟩, List.mem_of_getElem? (i := 23) (by decide +kernel), List.mem_of_getElem? (i := 421) (by decide +kernel), List.mem_of_getElem? (i := 422) (by decide +kernel)⟩
theorem lw_p12 : lw_okq (⟨"WeighRecorder$Store", "hasLivePages", "(I)Z"⟩, 7) := ⟨⟨by decide +kernel, by decide +kernel⟩, List.mem_of_getElem? (i := 23) (by decide +kernel), List.mem_of_getElem? (i := 425) (by decide +kernel), List.mem_of_getElem? (i := 426) (by decide +kernel)⟩
theorem lw_p13 : lw_okq (⟨"WeighRecorder$Chip", "mayStep", "()Z"⟩, 5) := ⟨⟨by decide +kernel, by decide +kernel⟩, List.mem_of_getElem? (i := 29) (by decide +kernel), List.mem_of_getElem? (i := 433) (by decide +kernel), List.mem_of_getElem? (i := 434) (by decide +kernel)⟩
theorem lw_p14 : lw_okq (⟨"WeighRecorder$Store", "evacuate", "(I)I"⟩, 7) := ⟨⟨by decide +kernel, by decide +kernel⟩, List.mem_of_getElem? (i := 23) (by decide +kernel), List.mem_of_getElem? (i := 441) (by decide +kernel), List.mem_of_getElem? (i := 442) (by decide +kernel)⟩
theorem lw_p15 : lw_okq (⟨"WeighRecorder$Store", "rewritePage", "(II)Z"⟩, 7) := ⟨⟨by decide +kernel, by decide +kernel⟩, List.mem_of_getElem? (i := 23) (by decide +kernel), List.mem_of_getElem? (i := 445) (by decide +kernel), List.mem_of_getElem? (i := 446) (by decide +kernel)⟩
def lw_privs_1 : List (MethodName × Nat) := [(⟨"WeighRecorder", "forgetReadings", "()V"⟩, 7), (⟨"WeighRecorder$Store", "findNewestPages", "()I"⟩, 7), (⟨"WeighRecorder$Store", "newerOf", "(II)I"⟩, 7), (⟨"WeighRecorder$Store", "readLeaf", "(LWeighRecorder$Log;I)I"⟩, 7), (⟨"WeighRecorder$Log", "applyVoiding", "(II)V"⟩, 5), (⟨"WeighRecorder$Store", "isLive", "(I)Z"⟩, 7), (⟨"java/lang/Throwable", "fillInStackTrace", "(I)Ljava/lang/Throwable;"⟩, 6), (⟨"WeighRecorder", "append", "(III)I"⟩, 7), (⟨"WeighRecorder$Store", "freePageOfCursor", "()I"⟩, 7), (⟨"WeighRecorder$Store", "chooseVictim", "()I"⟩, 7), (⟨"WeighRecorder$Store", "stalePagesOf", "(I)I"⟩, 7), (⟨"WeighRecorder$Store", "reclaim", "(I)I"⟩, 7), (⟨"WeighRecorder$Store", "hasLivePages", "(I)Z"⟩, 7), (⟨"WeighRecorder$Chip", "mayStep", "()Z"⟩, 5), (⟨"WeighRecorder$Store", "evacuate", "(I)I"⟩, 7), (⟨"WeighRecorder$Store", "rewritePage", "(II)Z"⟩, 7)]
theorem lw_r1 : ∀ q ∈ lw_privs_1, lw_okq q := List.forall_mem_cons.mpr ⟨lw_p0, List.forall_mem_cons.mpr ⟨lw_p1, List.forall_mem_cons.mpr ⟨lw_p2, List.forall_mem_cons.mpr ⟨lw_p3, List.forall_mem_cons.mpr ⟨lw_p4, List.forall_mem_cons.mpr ⟨lw_p5, List.forall_mem_cons.mpr ⟨lw_p6, List.forall_mem_cons.mpr ⟨lw_p7, List.forall_mem_cons.mpr ⟨lw_p8, List.forall_mem_cons.mpr ⟨lw_p9, List.forall_mem_cons.mpr ⟨lw_p10, List.forall_mem_cons.mpr ⟨lw_p11, List.forall_mem_cons.mpr ⟨lw_p12, List.forall_mem_cons.mpr ⟨lw_p13, List.forall_mem_cons.mpr ⟨lw_p14, List.forall_mem_cons.mpr ⟨lw_p15, fun _ h => absurd h List.not_mem_nil⟩⟩⟩⟩⟩⟩⟩⟩⟩⟩⟩⟩⟩⟩⟩⟩
theorem lw_p16 : lw_okq (⟨"WeighRecorder$Store", "sealRow", "()V"⟩, 7) := ⟨⟨by decide +kernel, by decide +kernel⟩, List.mem_of_getElem? (i := 23) (by decide +kernel), List.mem_of_getElem? (i := 449) (by decide +kernel), List.mem_of_getElem? (i := 450) (by decide +kernel)⟩
theorem lw_p17 : lw_okq (⟨"WeighRecorder$Log", "wordOf", "(II)I"⟩, 5) := ⟨⟨by decide +kernel, by decide +kernel⟩, List.mem_of_getElem? (i := 79) (by decide +kernel), List.mem_of_getElem? (i := 514) (by decide +kernel), List.mem_of_getElem? (i := 515) (by decide +kernel)⟩
theorem lw_p18 : lw_okq (⟨"WeighRecorder$Store", "sumBefore", "(I)I"⟩, 7) := ⟨⟨by decide +kernel, by decide +kernel⟩, List.mem_of_getElem? (i := 23) (by decide +kernel), List.mem_of_getElem? (i := 597) (by decide +kernel), List.mem_of_getElem? (i := 598) (by decide +kernel)⟩
theorem lw_p19 : lw_okq (⟨"WeighRecorder$Line", "addNumber", "(I)V"⟩, 2) := ⟨⟨by decide +kernel, by decide +kernel⟩, List.mem_of_getElem? (i := 101) (by decide +kernel), List.mem_of_getElem? (i := 616) (by decide +kernel), List.mem_of_getElem? (i := 617) (by decide +kernel)⟩
theorem lw_p20 : lw_okq (⟨"WeighRecorder$Line", "addByte", "(I)V"⟩, 2) := ⟨⟨by decide +kernel, by decide +kernel⟩, List.mem_of_getElem? (i := 101) (by decide +kernel), List.mem_of_getElem? (i := 620) (by decide +kernel), List.mem_of_getElem? (i := 621) (by decide +kernel)⟩
theorem lw_p21 : lw_okq (⟨"WeighRecorderModel", "forget", "()V"⟩, 20) := ⟨⟨by decide +kernel, by decide +kernel⟩, List.mem_of_getElem? (i := 703) (by decide +kernel), List.mem_of_getElem? (i := 709) (by decide +kernel), List.mem_of_getElem? (i := 710) (by decide +kernel)⟩
theorem lw_p22 : lw_okq (⟨"WeighRecorderModel", "fails", "(IZ)Z"⟩, 20) := ⟨⟨by decide +kernel, by decide +kernel⟩, List.mem_of_getElem? (i := 703) (by decide +kernel), List.mem_of_getElem? (i := 785) (by decide +kernel), List.mem_of_getElem? (i := 786) (by decide +kernel)⟩
theorem lw_p23 : lw_okq (⟨"WeighRecorderModel", "take", "(III)I"⟩, 20) := ⟨⟨by decide +kernel, by decide +kernel⟩, List.mem_of_getElem? (i := 703) (by decide +kernel), List.mem_of_getElem? (i := 797) (by decide +kernel), List.mem_of_getElem? (i := 798) (by decide +kernel)⟩
theorem lw_p24 : lw_okq (⟨"WeighRecorderModel", "sumOf", "([III)I"⟩, 20) := ⟨⟨by decide +kernel, by decide +kernel⟩, List.mem_of_getElem? (i := 703) (by decide +kernel), List.mem_of_getElem? (i := 801) (by decide +kernel), List.mem_of_getElem? (i := 802) (by decide +kernel)⟩
theorem lw_p25 : lw_okq (⟨"WeighRecorderModel", "writeLeaf", "(II)I"⟩, 20) := ⟨⟨by decide +kernel, by decide +kernel⟩, List.mem_of_getElem? (i := 703) (by decide +kernel), List.mem_of_getElem? (i := 809) (by decide +kernel), List.mem_of_getElem? (i := 810) (by decide +kernel)⟩
theorem lw_p26 : lw_okq (⟨"WeighRecorderModel", "makeRoom", "()I"⟩, 20) := ⟨⟨by decide +kernel, by decide +kernel⟩, List.mem_of_getElem? (i := 703) (by decide +kernel), List.mem_of_getElem? (i := 813) (by decide +kernel), List.mem_of_getElem? (i := 814) (by decide +kernel)⟩
theorem lw_p27 : lw_okq (⟨"WeighRecorderModel", "firstFree", "(I)I"⟩, 20) := ⟨⟨by decide +kernel, by decide +kernel⟩, List.mem_of_getElem? (i := 703) (by decide +kernel), List.mem_of_getElem? (i := 817) (by decide +kernel), List.mem_of_getElem? (i := 818) (by decide +kernel)⟩
theorem lw_p28 : lw_okq (⟨"WeighRecorderModel", "isFree", "(I)Z"⟩, 20) := ⟨⟨by decide +kernel, by decide +kernel⟩, List.mem_of_getElem? (i := 703) (by decide +kernel), List.mem_of_getElem? (i := 821) (by decide +kernel), List.mem_of_getElem? (i := 822) (by decide +kernel)⟩
theorem lw_p29 : lw_okq (⟨"WeighRecorderModel", "isClean", "(I)Z"⟩, 20) := ⟨⟨by decide +kernel, by decide +kernel⟩, List.mem_of_getElem? (i := 703) (by decide +kernel), List.mem_of_getElem? (i := 825) (by decide +kernel), List.mem_of_getElem? (i := 826) (by decide +kernel)⟩
theorem lw_p30 : lw_okq (⟨"WeighRecorderModel", "victim", "()I"⟩, 20) := ⟨⟨by decide +kernel, by decide +kernel⟩, List.mem_of_getElem? (i := 703) (by decide +kernel), List.mem_of_getElem? (i := 829) (by decide +kernel), List.mem_of_getElem? (i := 830) (by decide +kernel)⟩
theorem lw_p31 : lw_okq (⟨"WeighRecorderModel", "staleOf", "(I)I"⟩, 20) := ⟨⟨by decide +kernel, by decide +kernel⟩, List.mem_of_getElem? (i := 703) (by decide +kernel), List.mem_of_getElem? (i := 833) (by decide +kernel), List.mem_of_getElem? (i := 834) (by decide +kernel)⟩
def lw_privs_2 : List (MethodName × Nat) := [(⟨"WeighRecorder$Store", "sealRow", "()V"⟩, 7), (⟨"WeighRecorder$Log", "wordOf", "(II)I"⟩, 5), (⟨"WeighRecorder$Store", "sumBefore", "(I)I"⟩, 7), (⟨"WeighRecorder$Line", "addNumber", "(I)V"⟩, 2), (⟨"WeighRecorder$Line", "addByte", "(I)V"⟩, 2), (⟨"WeighRecorderModel", "forget", "()V"⟩, 20), (⟨"WeighRecorderModel", "fails", "(IZ)Z"⟩, 20), (⟨"WeighRecorderModel", "take", "(III)I"⟩, 20), (⟨"WeighRecorderModel", "sumOf", "([III)I"⟩, 20), (⟨"WeighRecorderModel", "writeLeaf", "(II)I"⟩, 20), (⟨"WeighRecorderModel", "makeRoom", "()I"⟩, 20), (⟨"WeighRecorderModel", "firstFree", "(I)I"⟩, 20), (⟨"WeighRecorderModel", "isFree", "(I)Z"⟩, 20), (⟨"WeighRecorderModel", "isClean", "(I)Z"⟩, 20), (⟨"WeighRecorderModel", "victim", "()I"⟩, 20), (⟨"WeighRecorderModel", "staleOf", "(I)I"⟩, 20)]
theorem lw_r2 : ∀ q ∈ lw_privs_2, lw_okq q := List.forall_mem_cons.mpr ⟨lw_p16, List.forall_mem_cons.mpr ⟨lw_p17, List.forall_mem_cons.mpr ⟨lw_p18, List.forall_mem_cons.mpr ⟨lw_p19, List.forall_mem_cons.mpr ⟨lw_p20, List.forall_mem_cons.mpr ⟨lw_p21, List.forall_mem_cons.mpr ⟨lw_p22, List.forall_mem_cons.mpr ⟨lw_p23, List.forall_mem_cons.mpr ⟨lw_p24, List.forall_mem_cons.mpr ⟨lw_p25, List.forall_mem_cons.mpr ⟨lw_p26, List.forall_mem_cons.mpr ⟨lw_p27, List.forall_mem_cons.mpr ⟨lw_p28, List.forall_mem_cons.mpr ⟨lw_p29, List.forall_mem_cons.mpr ⟨lw_p30, List.forall_mem_cons.mpr ⟨lw_p31, fun _ h => absurd h List.not_mem_nil⟩⟩⟩⟩⟩⟩⟩⟩⟩⟩⟩⟩⟩⟩⟩⟩
theorem lw_p32 : lw_okq (⟨"WeighRecorderModel", "isLive", "(I)Z"⟩, 20) := ⟨⟨by decide +kernel, by decide +kernel⟩, List.mem_of_getElem? (i := 703) (by decide +kernel), List.mem_of_getElem? (i := 837) (by decide +kernel), List.mem_of_getElem? (i := 838) (by decide +kernel)⟩
theorem lw_p33 : lw_okq (⟨"WeighRecorderModel", "move", "(I)Z"⟩, 20) := ⟨⟨by decide +kernel, by decide +kernel⟩, List.mem_of_getElem? (i := 703) (by decide +kernel), List.mem_of_getElem? (i := 841) (by decide +kernel), List.mem_of_getElem? (i := 842) (by decide +kernel)⟩
theorem lw_p34 : lw_okq (⟨"WeighRecorderModel", "write", "(II)Z"⟩, 20) := ⟨⟨by decide +kernel, by decide +kernel⟩, List.mem_of_getElem? (i := 703) (by decide +kernel), List.mem_of_getElem? (i := 845) (by decide +kernel), List.mem_of_getElem? (i := 846) (by decide +kernel)⟩
theorem lw_p35 : lw_okq (⟨"WeighRecorderModel", "step", "()Z"⟩, 20) := ⟨⟨by decide +kernel, by decide +kernel⟩, List.mem_of_getElem? (i := 703) (by decide +kernel), List.mem_of_getElem? (i := 850) (by decide +kernel), List.mem_of_getElem? (i := 851) (by decide +kernel)⟩
theorem lw_p36 : lw_okq (⟨"WeighRecorderModel", "off", "()V"⟩, 20) := ⟨⟨by decide +kernel, by decide +kernel⟩, List.mem_of_getElem? (i := 703) (by decide +kernel), List.mem_of_getElem? (i := 854) (by decide +kernel), List.mem_of_getElem? (i := 855) (by decide +kernel)⟩
theorem lw_p37 : lw_okq (⟨"WeighRecorderModel", "erase", "(I)Z"⟩, 20) := ⟨⟨by decide +kernel, by decide +kernel⟩, List.mem_of_getElem? (i := 703) (by decide +kernel), List.mem_of_getElem? (i := 858) (by decide +kernel), List.mem_of_getElem? (i := 859) (by decide +kernel)⟩
theorem lw_p38 : lw_okq (⟨"WeighRecorderModel", "livesOf", "(I)I"⟩, 20) := ⟨⟨by decide +kernel, by decide +kernel⟩, List.mem_of_getElem? (i := 703) (by decide +kernel), List.mem_of_getElem? (i := 862) (by decide +kernel), List.mem_of_getElem? (i := 863) (by decide +kernel)⟩
theorem lw_p39 : lw_okq (⟨"WeighRecorderModel", "tickets", "()I"⟩, 20) := ⟨⟨by decide +kernel, by decide +kernel⟩, List.mem_of_getElem? (i := 703) (by decide +kernel), List.mem_of_getElem? (i := 866) (by decide +kernel), List.mem_of_getElem? (i := 867) (by decide +kernel)⟩
theorem lw_p40 : lw_okq (⟨"WeighRecorderModel", "isVoiding", "(I)Z"⟩, 20) := ⟨⟨by decide +kernel, by decide +kernel⟩, List.mem_of_getElem? (i := 703) (by decide +kernel), List.mem_of_getElem? (i := 870) (by decide +kernel), List.mem_of_getElem? (i := 871) (by decide +kernel)⟩
theorem lw_p41 : lw_okq (⟨"WeighRecorderModel", "at", "(II)I"⟩, 20) := ⟨⟨by decide +kernel, by decide +kernel⟩, List.mem_of_getElem? (i := 703) (by decide +kernel), List.mem_of_getElem? (i := 874) (by decide +kernel), List.mem_of_getElem? (i := 875) (by decide +kernel)⟩
theorem lw_p42 : lw_okq (⟨"WeighRecorderModel", "placeOf", "(I)I"⟩, 20) := ⟨⟨by decide +kernel, by decide +kernel⟩, List.mem_of_getElem? (i := 703) (by decide +kernel), List.mem_of_getElem? (i := 882) (by decide +kernel), List.mem_of_getElem? (i := 883) (by decide +kernel)⟩
theorem lw_p43 : lw_okq (⟨"WeighRecorderModel", "voided", "(I)I"⟩, 20) := ⟨⟨by decide +kernel, by decide +kernel⟩, List.mem_of_getElem? (i := 703) (by decide +kernel), List.mem_of_getElem? (i := 886) (by decide +kernel), List.mem_of_getElem? (i := 887) (by decide +kernel)⟩
theorem lw_p44 : lw_okq (⟨"WeighRecorderModel", "durable", "()I"⟩, 20) := ⟨⟨by decide +kernel, by decide +kernel⟩, List.mem_of_getElem? (i := 703) (by decide +kernel), List.mem_of_getElem? (i := 895) (by decide +kernel), List.mem_of_getElem? (i := 896) (by decide +kernel)⟩
theorem lw_p45 : lw_okq (⟨"WeighRecorderModel", "net", "(I)I"⟩, 20) := ⟨⟨by decide +kernel, by decide +kernel⟩, List.mem_of_getElem? (i := 703) (by decide +kernel), List.mem_of_getElem? (i := 908) (by decide +kernel), List.mem_of_getElem? (i := 909) (by decide +kernel)⟩
theorem lw_p46 : lw_okq (⟨"WeighRecorderModel", "isBad", "(I)Z"⟩, 20) := ⟨⟨by decide +kernel, by decide +kernel⟩, List.mem_of_getElem? (i := 703) (by decide +kernel), List.mem_of_getElem? (i := 924) (by decide +kernel), List.mem_of_getElem? (i := 925) (by decide +kernel)⟩
theorem lw_p47 : lw_okq (⟨"WeighRecorderModel", "isRight", "(I)Z"⟩, 20) := ⟨⟨by decide +kernel, by decide +kernel⟩, List.mem_of_getElem? (i := 703) (by decide +kernel), List.mem_of_getElem? (i := 928) (by decide +kernel), List.mem_of_getElem? (i := 929) (by decide +kernel)⟩
def lw_privs_3 : List (MethodName × Nat) := [(⟨"WeighRecorderModel", "isLive", "(I)Z"⟩, 20), (⟨"WeighRecorderModel", "move", "(I)Z"⟩, 20), (⟨"WeighRecorderModel", "write", "(II)Z"⟩, 20), (⟨"WeighRecorderModel", "step", "()Z"⟩, 20), (⟨"WeighRecorderModel", "off", "()V"⟩, 20), (⟨"WeighRecorderModel", "erase", "(I)Z"⟩, 20), (⟨"WeighRecorderModel", "livesOf", "(I)I"⟩, 20), (⟨"WeighRecorderModel", "tickets", "()I"⟩, 20), (⟨"WeighRecorderModel", "isVoiding", "(I)Z"⟩, 20), (⟨"WeighRecorderModel", "at", "(II)I"⟩, 20), (⟨"WeighRecorderModel", "placeOf", "(I)I"⟩, 20), (⟨"WeighRecorderModel", "voided", "(I)I"⟩, 20), (⟨"WeighRecorderModel", "durable", "()I"⟩, 20), (⟨"WeighRecorderModel", "net", "(I)I"⟩, 20), (⟨"WeighRecorderModel", "isBad", "(I)Z"⟩, 20), (⟨"WeighRecorderModel", "isRight", "(I)Z"⟩, 20)]
theorem lw_r3 : ∀ q ∈ lw_privs_3, lw_okq q := List.forall_mem_cons.mpr ⟨lw_p32, List.forall_mem_cons.mpr ⟨lw_p33, List.forall_mem_cons.mpr ⟨lw_p34, List.forall_mem_cons.mpr ⟨lw_p35, List.forall_mem_cons.mpr ⟨lw_p36, List.forall_mem_cons.mpr ⟨lw_p37, List.forall_mem_cons.mpr ⟨lw_p38, List.forall_mem_cons.mpr ⟨lw_p39, List.forall_mem_cons.mpr ⟨lw_p40, List.forall_mem_cons.mpr ⟨lw_p41, List.forall_mem_cons.mpr ⟨lw_p42, List.forall_mem_cons.mpr ⟨lw_p43, List.forall_mem_cons.mpr ⟨lw_p44, List.forall_mem_cons.mpr ⟨lw_p45, List.forall_mem_cons.mpr ⟨lw_p46, List.forall_mem_cons.mpr ⟨lw_p47, fun _ h => absurd h List.not_mem_nil⟩⟩⟩⟩⟩⟩⟩⟩⟩⟩⟩⟩⟩⟩⟩⟩
theorem lw_p48 : lw_okq (⟨"WeighRecorderModel", "onChip", "(I)I"⟩, 20) := ⟨⟨by decide +kernel, by decide +kernel⟩, List.mem_of_getElem? (i := 703) (by decide +kernel), List.mem_of_getElem? (i := 932) (by decide +kernel), List.mem_of_getElem? (i := 933) (by decide +kernel)⟩
theorem lw_p49 : lw_okq (⟨"WeighRecorderModel", "sayNumber", "(J)V"⟩, 20) := ⟨⟨by decide +kernel, by decide +kernel⟩, List.mem_of_getElem? (i := 703) (by decide +kernel), List.mem_of_getElem? (i := 940) (by decide +kernel), List.mem_of_getElem? (i := 941) (by decide +kernel)⟩
theorem lw_p50 : lw_okq (⟨"WeighRecorderModel", "say", "(I)V"⟩, 20) := ⟨⟨by decide +kernel, by decide +kernel⟩, List.mem_of_getElem? (i := 703) (by decide +kernel), List.mem_of_getElem? (i := 944) (by decide +kernel), List.mem_of_getElem? (i := 945) (by decide +kernel)⟩
theorem lw_p51 : lw_okq (⟨"WeighRecorderModel", "latest", "(I)I"⟩, 20) := ⟨⟨by decide +kernel, by decide +kernel⟩, List.mem_of_getElem? (i := 703) (by decide +kernel), List.mem_of_getElem? (i := 967) (by decide +kernel), List.mem_of_getElem? (i := 968) (by decide +kernel)⟩
theorem lw_p52 : lw_okq (⟨"WeighRecorderModel", "liveCount", "()I"⟩, 20) := ⟨⟨by decide +kernel, by decide +kernel⟩, List.mem_of_getElem? (i := 703) (by decide +kernel), List.mem_of_getElem? (i := 991) (by decide +kernel), List.mem_of_getElem? (i := 992) (by decide +kernel)⟩
theorem lw_p53 : lw_okq (⟨"WeighRecorderModel", "freePages", "()I"⟩, 20) := ⟨⟨by decide +kernel, by decide +kernel⟩, List.mem_of_getElem? (i := 703) (by decide +kernel), List.mem_of_getElem? (i := 995) (by decide +kernel), List.mem_of_getElem? (i := 996) (by decide +kernel)⟩
def lw_privs_4 : List (MethodName × Nat) := [(⟨"WeighRecorderModel", "onChip", "(I)I"⟩, 20), (⟨"WeighRecorderModel", "sayNumber", "(J)V"⟩, 20), (⟨"WeighRecorderModel", "say", "(I)V"⟩, 20), (⟨"WeighRecorderModel", "latest", "(I)I"⟩, 20), (⟨"WeighRecorderModel", "liveCount", "()I"⟩, 20), (⟨"WeighRecorderModel", "freePages", "()I"⟩, 20)]
theorem lw_r4 : ∀ q ∈ lw_privs_4, lw_okq q := List.forall_mem_cons.mpr ⟨lw_p48, List.forall_mem_cons.mpr ⟨lw_p49, List.forall_mem_cons.mpr ⟨lw_p50, List.forall_mem_cons.mpr ⟨lw_p51, List.forall_mem_cons.mpr ⟨lw_p52, List.forall_mem_cons.mpr ⟨lw_p53, fun _ h => absurd h List.not_mem_nil⟩⟩⟩⟩⟩⟩
def lw_privs : List (MethodName × Nat) := lw_privs_1 ++ (lw_privs_2 ++ (lw_privs_3 ++ (lw_privs_4)))
def lw_tbl : List Cond := k2_sels lw_privs ++ tables_1
theorem lw_privs_ok : ∀ q ∈ lw_privs, lw_okq q := by
  show ∀ q ∈ lw_privs_1 ++ (lw_privs_2 ++ (lw_privs_3 ++ (lw_privs_4))), lw_okq q
  exact List.forall_mem_append.mpr ⟨lw_r1, List.forall_mem_append.mpr ⟨lw_r2, List.forall_mem_append.mpr ⟨lw_r3, lw_r4⟩⟩⟩
end
section
def R_C : String := "WeighRecorder$Chip"
def F_C : u_T := fun k => match k with
  | 0 => ("WeighRecorder$Chip", "words", "[I", true)
  | 1 => ("WeighRecorder$Chip", "wear", "[I", true)
  | 2 => ("WeighRecorder$Chip", "failed", "[Z", true)
  | 3 => ("WeighRecorder$Chip", "powered", "Z", false)
  | _ => ("WeighRecorder$Chip", "stepsToCut", "I", false)
def t_C : Nat → FieldType := fun k => match k with
  | 0 => .array .int
  | 1 => .array .int
  | 2 => .array .boolean
  | 3 => .boolean
  | _ => .int
theorem nm_C : ∀ a, a < 5 → ∀ b, b < 5 → a ≠ b → (F_C a).2.1 ≠ (F_C b).2.1 := by decide +kernel
theorem ok_C : ∀ k, k < 5 → parseFieldDescriptor (F_C k).2.2.1 = some (t_C k) := by decide +kernel
def R_N : String := "WeighRecorder$Line"
def F_N : u_T := fun k => match k with
  | 0 => ("WeighRecorder$Line", "bytes", "[B", true)
  | _ => ("WeighRecorder$Line", "used", "I", false)
def t_N : Nat → FieldType := fun k => match k with
  | 0 => .array .byte
  | _ => .int
theorem nm_N : ∀ a, a < 2 → ∀ b, b < 2 → a ≠ b → (F_N a).2.1 ≠ (F_N b).2.1 := by decide +kernel
theorem ok_N : ∀ k, k < 2 → parseFieldDescriptor (F_N k).2.2.1 = some (t_N k) := by decide +kernel
def R_G : String := "WeighRecorder$Log"
def F_G : u_T := fun k => match k with
  | 0 => ("WeighRecorder$Log", "words", "[I", true)
  | 1 => ("WeighRecorder$Log", "recordOfTicket", "[I", true)
  | 2 => ("WeighRecorder$Log", "voidedBy", "[I", true)
  | 3 => ("WeighRecorder$Log", "records", "I", false)
  | _ => ("WeighRecorder$Log", "tickets", "I", false)
def t_G : Nat → FieldType := fun k => match k with
  | 0 => .array .int
  | 1 => .array .int
  | 2 => .array .int
  | 3 => .int
  | _ => .int
theorem nm_G : ∀ a, a < 5 → ∀ b, b < 5 → a ≠ b → (F_G a).2.1 ≠ (F_G b).2.1 := by decide +kernel
theorem ok_G : ∀ k, k < 5 → parseFieldDescriptor (F_G k).2.2.1 = some (t_G k) := by decide +kernel
def R_S : String := "WeighRecorder$Store"
def F_S : u_T := fun k => match k with
  | 0 => ("WeighRecorder$Store", "chip", "LWeighRecorder$Chip;", true)
  | 1 => ("WeighRecorder$Store", "livePages", "[I", true)
  | 2 => ("WeighRecorder$Store", "row", "[I", true)
  | 3 => ("WeighRecorder$Store", "cursor", "I", false)
  | 4 => ("WeighRecorder$Store", "serial", "I", false)
  | 5 => ("WeighRecorder$Store", "durable", "I", false)
  | _ => ("WeighRecorder$Store", "wornOut", "Z", false)
def t_S : Nat → FieldType := fun k => match k with
  | 0 => .object "WeighRecorder$Chip"
  | 1 => .array .int
  | 2 => .array .int
  | 3 => .int
  | 4 => .int
  | 5 => .int
  | _ => .boolean
theorem nm_S : ∀ a, a < 7 → ∀ b, b < 7 → a ≠ b → (F_S a).2.1 ≠ (F_S b).2.1 := by decide +kernel
theorem ok_S : ∀ k, k < 7 → parseFieldDescriptor (F_S k).2.2.1 = some (t_S k) := by decide +kernel
def R_R : String := "WeighRecorder"
def F_R : u_T := fun k => match k with
  | 0 => ("WeighRecorder", "store", "LWeighRecorder$Store;", true)
  | 1 => ("WeighRecorder", "chip", "LWeighRecorder$Chip;", true)
  | 2 => ("WeighRecorder", "log", "LWeighRecorder$Log;", true)
  | 3 => ("WeighRecorder", "line", "LWeighRecorder$Line;", true)
  | 4 => ("WeighRecorder", "active", "[Z", true)
  | 5 => ("WeighRecorder", "readings", "I", false)
  | _ => ("WeighRecorder", "readSteps", "I", false)
def t_R : Nat → FieldType := fun k => match k with
  | 0 => .object "WeighRecorder$Store"
  | 1 => .object "WeighRecorder$Chip"
  | 2 => .object "WeighRecorder$Log"
  | 3 => .object "WeighRecorder$Line"
  | 4 => .array .boolean
  | 5 => .int
  | _ => .int
theorem nm_R : ∀ a, a < 7 → ∀ b, b < 7 → a ≠ b → (F_R a).2.1 ≠ (F_R b).2.1 := by decide +kernel
theorem ok_R : ∀ k, k < 7 → parseFieldDescriptor (F_R k).2.2.1 = some (t_R k) := by decide +kernel
def R_M : String := "WeighRecorderModel"
def F_M : u_T := fun k => match k with
  | 0 => ("WeighRecorderModel", "thrown", "I", false)
  | 1 => ("WeighRecorderModel", "chip", "[I", true)
  | 2 => ("WeighRecorderModel", "wear", "[I", true)
  | 3 => ("WeighRecorderModel", "failed", "[Z", true)
  | 4 => ("WeighRecorderModel", "active", "[Z", true)
  | 5 => ("WeighRecorderModel", "on", "Z", false)
  | 6 => ("WeighRecorderModel", "cut", "I", false)
  | 7 => ("WeighRecorderModel", "records", "I", false)
  | 8 => ("WeighRecorderModel", "log", "[I", true)
  | 9 => ("WeighRecorderModel", "live", "[I", true)
  | 10 => ("WeighRecorderModel", "had", "[I", true)
  | 11 => ("WeighRecorderModel", "serial", "I", false)
  | 12 => ("WeighRecorderModel", "cursor", "I", false)
  | 13 => ("WeighRecorderModel", "readings", "I", false)
  | 14 => ("WeighRecorderModel", "weight", "I", false)
  | 15 => ("WeighRecorderModel", "worn", "Z", false)
  | 16 => ("WeighRecorderModel", "page", "[I", true)
  | 17 => ("WeighRecorderModel", "place", "I", false)
  | 18 => ("WeighRecorderModel", "sought", "I", false)
  | _ => ("WeighRecorderModel", "found", "I", false)
def t_M : Nat → FieldType := fun k => match k with
  | 0 => .int
  | 1 => .array .int
  | 2 => .array .int
  | 3 => .array .boolean
  | 4 => .array .boolean
  | 5 => .boolean
  | 6 => .int
  | 7 => .int
  | 8 => .array .int
  | 9 => .array .int
  | 10 => .array .int
  | 11 => .int
  | 12 => .int
  | 13 => .int
  | 14 => .int
  | 15 => .boolean
  | 16 => .array .int
  | 17 => .int
  | 18 => .int
  | _ => .int
theorem nm_M : ∀ a, a < 20 → ∀ b, b < 20 → a ≠ b → (F_M a).2.1 ≠ (F_M b).2.1 := by decide +kernel
theorem ok_M : ∀ k, k < 20 → parseFieldDescriptor (F_M k).2.2.1 = some (t_M k) := by decide +kernel
def R_L : String := "WeighRecorderLaw"
abbrev vwCl : List vw_C := [(R_C, F_C, 5), (R_N, F_N, 2), (R_G, F_G, 5), (R_S, F_S, 7), (R_R, F_R, 7), (R_M, F_M, 20)]
/-- the tables' good words -/
def gw : List Cond := lw_tbl.filter goodWord
theorem gw_in {w : Cond} (h : w ∈ lw_tbl) (g : goodWord w = true) : w ∈ gw := List.mem_filter.mpr ⟨h, g⟩
theorem gw_good {w : Cond} (h : w ∈ gw) : goodWord w = true := (List.mem_filter.mp h).2
theorem gw_of {w : Cond} (h : w ∈ gw) : w ∈ lw_tbl := (List.mem_filter.mp h).1
theorem tb_1 {w : Cond} (h : w ∈ tables_1_1) : w ∈ lw_tbl := List.mem_append_right _ (show w ∈ tables_1 from List.mem_append_left _ h)
theorem tb_2 {w : Cond} (h : w ∈ tables_1_2) : w ∈ lw_tbl := List.mem_append_right _ (show w ∈ tables_1 from List.mem_append_right _ (List.mem_append_left _ h))
theorem tb_3 {w : Cond} (h : w ∈ tables_1_3) : w ∈ lw_tbl := List.mem_append_right _ (show w ∈ tables_1 from List.mem_append_right _ (List.mem_append_right _ (List.mem_append_left _ h)))
theorem tb_4 {w : Cond} (h : w ∈ tables_1_4) : w ∈ lw_tbl := List.mem_append_right _ (show w ∈ tables_1 from List.mem_append_right _ (List.mem_append_right _ (List.mem_append_right _ (List.mem_append_left _ h))))
theorem tb_5 {w : Cond} (h : w ∈ tables_1_5) : w ∈ lw_tbl := List.mem_append_right _ (show w ∈ tables_1 from List.mem_append_right _ (List.mem_append_right _ (List.mem_append_right _ (List.mem_append_right _ (h)))))
theorem tb_s {q : MethodName × Nat} (h : q ∈ lw_privs) : Cond.selects q.1.cls q.1 q.1 ∈ lw_tbl := List.mem_append_left _ (List.mem_map.mpr ⟨q, h, rfl⟩)
theorem in_C : ∀ w ∈ u_ws R_C F_C 5, w ∈ gw := by
  intro w h
  obtain ⟨k, hk, rfl⟩ := List.mem_map.mp h
  have hk := List.mem_range.mp hk
  rcases (show k = 0 ∨ k = 1 ∨ k = 2 ∨ k = 3 ∨ k = 4 by omega) with rfl | rfl | rfl | rfl | rfl
  · exact gw_in (tb_1 (List.mem_of_getElem? (i := 39) rfl)) (by decide +kernel)
  · exact gw_in (tb_1 (List.mem_of_getElem? (i := 41) rfl)) (by decide +kernel)
  · exact gw_in (tb_1 (List.mem_of_getElem? (i := 43) rfl)) (by decide +kernel)
  · exact gw_in (tb_1 (List.mem_of_getElem? (i := 45) rfl)) (by decide +kernel)
  · exact gw_in (tb_1 (List.mem_of_getElem? (i := 47) rfl)) (by decide +kernel)
theorem in_N : ∀ w ∈ u_ws R_N F_N 2, w ∈ gw := by
  intro w h
  obtain ⟨k, hk, rfl⟩ := List.mem_map.mp h
  have hk := List.mem_range.mp hk
  rcases (show k = 0 ∨ k = 1 by omega) with rfl | rfl
  · exact gw_in (tb_1 (List.mem_of_getElem? (i := 108) rfl)) (by decide +kernel)
  · exact gw_in (tb_1 (List.mem_of_getElem? (i := 110) rfl)) (by decide +kernel)
theorem in_G : ∀ w ∈ u_ws R_G F_G 5, w ∈ gw := by
  intro w h
  obtain ⟨k, hk, rfl⟩ := List.mem_map.mp h
  have hk := List.mem_range.mp hk
  rcases (show k = 0 ∨ k = 1 ∨ k = 2 ∨ k = 3 ∨ k = 4 by omega) with rfl | rfl | rfl | rfl | rfl
  · exact gw_in (tb_1 (List.mem_of_getElem? (i := 89) rfl)) (by decide +kernel)
  · exact gw_in (tb_1 (List.mem_of_getElem? (i := 91) rfl)) (by decide +kernel)
  · exact gw_in (tb_1 (List.mem_of_getElem? (i := 93) rfl)) (by decide +kernel)
  · exact gw_in (tb_1 (List.mem_of_getElem? (i := 95) rfl)) (by decide +kernel)
  · exact gw_in (tb_1 (List.mem_of_getElem? (i := 97) rfl)) (by decide +kernel)
theorem in_S : ∀ w ∈ u_ws R_S F_S 7, w ∈ gw := by
  intro w h
  obtain ⟨k, hk, rfl⟩ := List.mem_map.mp h
  have hk := List.mem_range.mp hk
  rcases (show k = 0 ∨ k = 1 ∨ k = 2 ∨ k = 3 ∨ k = 4 ∨ k = 5 ∨ k = 6 by omega) with rfl | rfl | rfl | rfl | rfl | rfl | rfl
  · exact gw_in (tb_1 (List.mem_of_getElem? (i := 59) rfl)) (by decide +kernel)
  · exact gw_in (tb_1 (List.mem_of_getElem? (i := 61) rfl)) (by decide +kernel)
  · exact gw_in (tb_1 (List.mem_of_getElem? (i := 63) rfl)) (by decide +kernel)
  · exact gw_in (tb_1 (List.mem_of_getElem? (i := 65) rfl)) (by decide +kernel)
  · exact gw_in (tb_1 (List.mem_of_getElem? (i := 67) rfl)) (by decide +kernel)
  · exact gw_in (tb_1 (List.mem_of_getElem? (i := 69) rfl)) (by decide +kernel)
  · exact gw_in (tb_1 (List.mem_of_getElem? (i := 71) rfl)) (by decide +kernel)
theorem in_R : ∀ w ∈ u_ws R_R F_R 7, w ∈ gw := by
  intro w h
  obtain ⟨k, hk, rfl⟩ := List.mem_map.mp h
  have hk := List.mem_range.mp hk
  rcases (show k = 0 ∨ k = 1 ∨ k = 2 ∨ k = 3 ∨ k = 4 ∨ k = 5 ∨ k = 6 by omega) with rfl | rfl | rfl | rfl | rfl | rfl | rfl
  · exact gw_in (tb_1 (List.mem_of_getElem? (i := 121) rfl)) (by decide +kernel)
  · exact gw_in (tb_1 (List.mem_of_getElem? (i := 123) rfl)) (by decide +kernel)
  · exact gw_in (tb_1 (List.mem_of_getElem? (i := 125) rfl)) (by decide +kernel)
  · exact gw_in (tb_1 (List.mem_of_getElem? (i := 127) rfl)) (by decide +kernel)
  · exact gw_in (tb_1 (List.mem_of_getElem? (i := 129) rfl)) (by decide +kernel)
  · exact gw_in (tb_1 (List.mem_of_getElem? (i := 131) rfl)) (by decide +kernel)
  · exact gw_in (tb_1 (List.mem_of_getElem? (i := 133) rfl)) (by decide +kernel)
theorem in_M : ∀ w ∈ u_ws R_M F_M 20, w ∈ gw := by
  intro w h
  obtain ⟨k, hk, rfl⟩ := List.mem_map.mp h
  have hk := List.mem_range.mp hk
  rcases (show k = 0 ∨ k = 1 ∨ k = 2 ∨ k = 3 ∨ k = 4 ∨ k = 5 ∨ k = 6 ∨ k = 7 ∨ k = 8 ∨ k = 9 ∨ k = 10 ∨ k = 11 ∨ k = 12 ∨ k = 13 ∨ k = 14 ∨ k = 15 ∨ k = 16 ∨ k = 17 ∨ k = 18 ∨ k = 19 by omega) with rfl | rfl | rfl | rfl | rfl | rfl | rfl | rfl | rfl | rfl | rfl | rfl | rfl | rfl | rfl | rfl | rfl | rfl | rfl | rfl
  · exact gw_in (tb_4 (List.mem_of_getElem? (i := 12) rfl)) (by decide +kernel)
  · exact gw_in (tb_4 (List.mem_of_getElem? (i := 14) rfl)) (by decide +kernel)
  · exact gw_in (tb_4 (List.mem_of_getElem? (i := 16) rfl)) (by decide +kernel)
  · exact gw_in (tb_4 (List.mem_of_getElem? (i := 18) rfl)) (by decide +kernel)
  · exact gw_in (tb_4 (List.mem_of_getElem? (i := 20) rfl)) (by decide +kernel)
  · exact gw_in (tb_4 (List.mem_of_getElem? (i := 22) rfl)) (by decide +kernel)
  · exact gw_in (tb_4 (List.mem_of_getElem? (i := 24) rfl)) (by decide +kernel)
  · exact gw_in (tb_4 (List.mem_of_getElem? (i := 26) rfl)) (by decide +kernel)
  · exact gw_in (tb_4 (List.mem_of_getElem? (i := 28) rfl)) (by decide +kernel)
  · exact gw_in (tb_4 (List.mem_of_getElem? (i := 30) rfl)) (by decide +kernel)
  · exact gw_in (tb_4 (List.mem_of_getElem? (i := 32) rfl)) (by decide +kernel)
  · exact gw_in (tb_4 (List.mem_of_getElem? (i := 34) rfl)) (by decide +kernel)
  · exact gw_in (tb_4 (List.mem_of_getElem? (i := 36) rfl)) (by decide +kernel)
  · exact gw_in (tb_4 (List.mem_of_getElem? (i := 38) rfl)) (by decide +kernel)
  · exact gw_in (tb_4 (List.mem_of_getElem? (i := 40) rfl)) (by decide +kernel)
  · exact gw_in (tb_4 (List.mem_of_getElem? (i := 42) rfl)) (by decide +kernel)
  · exact gw_in (tb_4 (List.mem_of_getElem? (i := 44) rfl)) (by decide +kernel)
  · exact gw_in (tb_4 (List.mem_of_getElem? (i := 46) rfl)) (by decide +kernel)
  · exact gw_in (tb_4 (List.mem_of_getElem? (i := 48) rfl)) (by decide +kernel)
  · exact gw_in (tb_4 (List.mem_of_getElem? (i := 50) rfl)) (by decide +kernel)
theorem g_c {M y : Cond} (hy : y ∈ gw) : GoodIn (M :: gw) (y :: gw) := fun w h => (List.mem_cons.mp h).elim (fun e => by rw [e]; exact ⟨List.mem_cons_of_mem _ hy, good_of_word (gw_good hy)⟩) (fun h => ⟨List.mem_cons_of_mem _ h, good_of_word (gw_good h)⟩)
theorem g_V {M cy : Cond} {own C : String} {idx : Nat} {y : MethodName} (h1 : .methodLink own idx y ∈ gw) (h2 : .instanceMethod y ∈ gw) (h3 : .selects C y y ∈ gw) (h4 : .initialized C ∈ gw) (h5 : cy ∈ gw) : GoodIn (M :: gw) (wsV own idx C y (cy :: gw)) := by
  intro w h
  have k : ∀ {z : Cond}, z ∈ gw → z ∈ M :: gw ∧ ((z.onTables && z.keeps) = true ∨ ∃ ty, z = .arrayClass ty) := fun hz => ⟨List.mem_cons_of_mem _ hz, good_of_word (gw_good hz)⟩
  rcases List.mem_append.mp h with h | h
  · simp only [List.mem_cons, List.not_mem_nil, or_false] at h
    rcases h with rfl | rfl | rfl | rfl
    · exact k h1
    · exact k h2
    · exact k h3
    · exact k h4
  · exact g_c h5 w h
theorem g_S {M cy : Cond} {own : String} {idx : Nat} {y : MethodName} (h1 : .methodLink own idx y ∈ gw) (h2 : .static y ∈ gw) (h4 : .initialized own ∈ gw) (h5 : cy ∈ gw) : GoodIn (M :: gw) (wsS own idx y (cy :: gw)) := by
  intro w h
  have k : ∀ {z : Cond}, z ∈ gw → z ∈ M :: gw ∧ ((z.onTables && z.keeps) = true ∨ ∃ ty, z = .arrayClass ty) := fun hz => ⟨List.mem_cons_of_mem _ hz, good_of_word (gw_good hz)⟩
  rcases List.mem_append.mp h with h | h
  · simp only [List.mem_cons, List.not_mem_nil, or_false] at h
    rcases h with rfl | rfl | rfl
    · exact k h1
    · exact k h2
    · exact k h4
  · exact g_c h5 w h
end
section
/-! numbers at branches, values on the stack, what a call asks of a world -/
theorem cd_eq_t {a b : Nat} (ha : a < 2 ^ 31) (hb : b < 2 ^ 31) (h : nI a = nI b) : a = b := (nI_eq ha hb).mp h
theorem cd_eq_f {a b : Nat} (_ : a < 2 ^ 31) (_ : b < 2 ^ 31) (h : ¬ nI a = nI b) : ¬ a = b := fun q => h (by rw [q])
theorem cd_ne_t {a b : Nat} (ha : a < 2 ^ 31) (hb : b < 2 ^ 31) (h : ¬ nI a = nI b) : ¬ a = b := cd_eq_f ha hb h
theorem cd_ne_f {a b : Nat} (ha : a < 2 ^ 31) (hb : b < 2 ^ 31) (h : nI a = nI b) : a = b := cd_eq_t ha hb h
theorem cd_lt_t {a b : Nat} (ha : a < 2 ^ 31) (hb : b < 2 ^ 31) (h : nI a < nI b) : a < b := (nI_ltI ha hb).mp h
theorem cd_lt_f {a b : Nat} (ha : a < 2 ^ 31) (hb : b < 2 ^ 31) (h : ¬ nI a < nI b) : ¬ a < b := fun q => h ((nI_ltI ha hb).mpr q)
theorem cd_ge_t {a b : Nat} (ha : a < 2 ^ 31) (hb : b < 2 ^ 31) (h : nI b ≤ nI a) : b ≤ a := (nI_leI hb ha).mp h
theorem cd_ge_f {a b : Nat} (ha : a < 2 ^ 31) (hb : b < 2 ^ 31) (h : ¬ nI b ≤ nI a) : ¬ b ≤ a := fun q => h ((nI_leI hb ha).mpr q)
theorem cd_gt_t {a b : Nat} (ha : a < 2 ^ 31) (hb : b < 2 ^ 31) (h : nI b < nI a) : b < a := (nI_ltI hb ha).mp h
theorem cd_gt_f {a b : Nat} (ha : a < 2 ^ 31) (hb : b < 2 ^ 31) (h : ¬ nI b < nI a) : ¬ b < a := fun q => h ((nI_ltI hb ha).mpr q)
theorem cd_le_t {a b : Nat} (ha : a < 2 ^ 31) (hb : b < 2 ^ 31) (h : nI a ≤ nI b) : a ≤ b := (nI_leI ha hb).mp h
theorem cd_le_f {a b : Nat} (ha : a < 2 ^ 31) (hb : b < 2 ^ 31) (h : ¬ nI a ≤ nI b) : ¬ a ≤ b := fun q => h ((nI_leI ha hb).mpr q)
theorem cz_eq_t {a : Nat} (ha : a < 2 ^ 31) (h : nI a = 0) : a = 0 := cd_eq_t ha (by decide) (by rw [nI_0]; exact h)
theorem cz_eq_f {a : Nat} (_ : a < 2 ^ 31) (h : ¬ nI a = 0) : ¬ a = 0 := fun q => h (by rw [q, nI_0])
theorem cz_ne_t {a : Nat} (ha : a < 2 ^ 31) (h : ¬ nI a = 0) : ¬ a = 0 := cz_eq_f ha h
theorem cz_ne_f {a : Nat} (ha : a < 2 ^ 31) (h : nI a = 0) : a = 0 := cz_eq_t ha h
theorem cz_lt_t {a : Nat} (ha : a < 2 ^ 31) (h : nI a < 0) : False := nI_pos ha h
theorem cz_lt_f {a : Nat} (_ : a < 2 ^ 31) (_ : ¬ nI a < 0) : True := trivial
theorem cz_ge_t {a : Nat} (_ : a < 2 ^ 31) (_ : 0 ≤ nI a) : True := trivial
theorem cz_ge_f {a : Nat} (ha : a < 2 ^ 31) (h : ¬ 0 ≤ nI a) : False := h (nI_pos' ha)
theorem cz_gt_t {a : Nat} (ha : a < 2 ^ 31) (h : 0 < nI a) : 0 < a := cd_lt_t (by decide) ha (by rw [nI_0]; exact h)
theorem cz_gt_f {a : Nat} (ha : a < 2 ^ 31) (h : ¬ 0 < nI a) : a = 0 := by
  have := cd_lt_f (a := 0) (by decide) ha (by rw [nI_0]; exact h)
  omega
theorem cz_le_t {a : Nat} (ha : a < 2 ^ 31) (h : nI a ≤ 0) : a = 0 := by
  have := cd_le_t (b := 0) ha (by decide) (by rw [nI_0]; exact h)
  omega
theorem cz_le_f {a : Nat} (ha : a < 2 ^ 31) (h : ¬ nI a ≤ 0) : 0 < a := by
  have := cd_le_f (b := 0) ha (by decide) (by rw [nI_0]; exact h)
  omega
section TP
variable {p : Program} {l : Launch} {e : Env} {R : Room} {s : State} {m : MethodId} {args : Array Value} {below : List Frame} {meth : Method} {c : Code} {H : Heap} {locs : List Loc} {cells slots : Nat} {Q : State → Prop} {pc : Nat} {ls : Array Slot} {rest : List Value}
theorem tp_i {x y : Int32} (h : x = y) (k : W p l e R s m args below meth c H locs cells slots Q (F0 m pc ls (.int y :: rest))) : W p l e R s m args below meth c H locs cells slots Q (F0 m pc ls (.int x :: rest)) := h ▸ k
theorem tp_l {x y : Int64} (h : x = y) (k : W p l e R s m args below meth c H locs cells slots Q (F0 m pc ls (.long y :: rest))) : W p l e R s m args below meth c H locs cells slots Q (F0 m pc ls (.long x :: rest)) := h ▸ k
end TP
/-- a reader's start: the world and the tables -/
def xR (D : va_G) (cl : List vw_C) (tys : List (ClassId × FieldType)) (ws : va_W) (av : List Value) : Array Value → State → Prop := va_Pc av (fun U => va_P D cl ws U.heap ∧ va_K D cl tys U)
/-- a writer's start: and the cells are apart -/
def xP (D : va_G) (cl : List vw_C) (tys : List (ClassId × FieldType)) (ws : va_W) (sz : Nat) (av : List Value) : Array Value → State → Prop := va_Pc av (fun U => U.heap.size = sz ∧ va_P D cl ws U.heap ∧ va_K D cl tys U ∧ va_D (fun _ => True) ws)
/-- a writer's end -/
def xB (D : va_G) (cl : List vw_C) (tys : List (ClassId × FieldType)) (A : Nat → Prop) (ws : va_W) (t : State) : Prop := va_P D cl ws t.heap ∧ va_K D cl tys t ∧ va_D A ws
theorem xR_blind {D : va_G} {cl : List vw_C} {tys : List (ClassId × FieldType)} {ws : va_W} {av : List Value} : FrameBlind (xR D cl tys ws av) := fun a U g mk q => by
  obtain ⟨q0, qP, qK⟩ := q
  exact ⟨q0, qP, va_K.moved (u := U) (U := U.calling g mk a) (Vm.Alike.refl U.vm) qK⟩
theorem xP_blind {D : va_G} {cl : List vw_C} {tys : List (ClassId × FieldType)} {ws : va_W} {sz : Nat} {av : List Value} : FrameBlind (xP D cl tys ws sz av) := fun a U g mk q => by
  obtain ⟨q0, q1, qP, qK, qD⟩ := q
  exact ⟨q0, q1, qP, va_K.moved (u := U) (U := U.calling g mk a) (Vm.Alike.refl U.vm) qK, qD⟩
theorem xR_v {s : State} {H : Heap} {D : va_G} {cl : List vw_C} {tys : List (ClassId × FieldType)} {ws : va_W} {As : List Value} {b ci : Nat} {fs : List Value} {q : vw_C} (hP : va_P D cl ws H) (hK : va_K D cl tys s) (k : Nat) (he : ws[k]? = some (b, .inr (ci, fs))) (hc : cl[ci]? = some q) : PreV s H q.1 b (xR D cl tys ws (.ref b :: As)) As :=
  ⟨xR_blind, va_recv hK hP hc he, fun U hU hW => ⟨rfl, by rw [hU]; exact hP, va_K.moved hW.alike hK⟩⟩
theorem xR_s {s : State} {H : Heap} {D : va_G} {cl : List vw_C} {tys : List (ClassId × FieldType)} {ws : va_W} {As : List Value} (hP : va_P D cl ws H) (hK : va_K D cl tys s) : PreS s H (xR D cl tys ws As) As :=
  ⟨xR_blind, fun U hU hW => ⟨rfl, by rw [hU]; exact hP, va_K.moved hW.alike hK⟩⟩
theorem xP_v {s : State} {H : Heap} {D : va_G} {cl : List vw_C} {tys : List (ClassId × FieldType)} {A : Nat → Prop} {ws : va_W} {As : List Value} {b ci : Nat} {fs : List Value} {q : vw_C} (hP : va_P D cl ws H) (hK : va_K D cl tys s) (hD : va_D A ws) (k : Nat) (he : ws[k]? = some (b, .inr (ci, fs))) (hc : cl[ci]? = some q) : PreV s H q.1 b (xP D cl tys ws H.size (.ref b :: As)) As :=
  ⟨xP_blind, va_recv hK hP hc he, fun U hU hW => ⟨rfl, by rw [hU], by rw [hU]; exact hP, va_K.moved hW.alike hK, hD.weaken (fun _ _ _ _ => trivial)⟩⟩
theorem xP_s {s : State} {H : Heap} {D : va_G} {cl : List vw_C} {tys : List (ClassId × FieldType)} {A : Nat → Prop} {ws : va_W} {As : List Value} (hP : va_P D cl ws H) (hK : va_K D cl tys s) (hD : va_D A ws) : PreS s H (xP D cl tys ws H.size As) As :=
  ⟨xP_blind, fun U hU hW => ⟨rfl, by rw [hU], by rw [hU]; exact hP, va_K.moved hW.alike hK, hD.weaken (fun _ _ _ _ => trivial)⟩⟩
/-- what a method of n cells may change -/
def xA (n : Nat) (ad : Nat → Nat) (sz : Nat) : Nat → Prop := fun q => (∃ k, k < n ∧ q = ad k) ∨ sz ≤ q
theorem xA_up {n : Nat} {ad : Nat → Nat} {a b : Nat} (h : a ≤ b) : ∀ q, xA n ad b q → xA n ad a q := fun q hq => hq.elim Or.inl (fun z => Or.inr (Nat.le_trans h z))
end
section
/-- the recorder's fifteen cells -/
def xw (ad cd : Nat → Nat) (w wr fl : Nat → Int32) (pw sc : Int32) (lw rot vb : Nat → Int32) (rec tk : Int32) (live row : Nat → Int32) (cur ser dur wo : Int32) (bts : Nat → Int32) (us : Int32) (act : Nat → Int32) (rd rs : Int32) : va_W := [(ad 0, .inr (4, [.ref (ad 1), .ref (ad 2), .ref (ad 3), .ref (ad 4), .ref (ad 5), .int rd, .int rs])), (ad 1, .inr (3, [.ref (ad 2), .ref (ad 6), .ref (ad 7), .int cur, .int ser, .int dur, .int wo])), (ad 2, .inr (0, [.ref (ad 8), .ref (ad 9), .ref (ad 10), .int pw, .int sc])), (ad 3, .inr (2, [.ref (ad 11), .ref (ad 12), .ref (ad 13), .int rec, .int tk])), (ad 4, .inr (1, [.ref (ad 14), .int us])), (ad 5, .inl (cd 5, 40, .inl act)), (ad 6, .inl (cd 6, 16, .inl live)), (ad 7, .inl (cd 7, 16, .inl row)), (ad 8, .inl (cd 8, 512, .inl w)), (ad 9, .inl (cd 9, 8, .inl wr)), (ad 10, .inl (cd 10, 8, .inl fl)), (ad 11, .inl (cd 11, 192, .inl lw)), (ad 12, .inl (cd 12, 48, .inl rot)), (ad 13, .inl (cd 13, 48, .inl vb)), (ad 14, .inl (cd 14, 32, .inl bts))]
def xt (cd : Nat → Nat) : List (ClassId × FieldType) := [(cd 5, .boolean), (cd 6, .int), (cd 7, .int), (cd 8, .int), (cd 9, .int), (cd 10, .boolean), (cd 11, .int), (cd 12, .int), (cd 13, .int), (cd 14, .byte)]
/-- the reference's nine cells -/
def mw_ (am cm : Nat → Nat) (th : Int32) (mw mwr mfl mact : Nat → Int32) (on cut mrec : Int32) (mlog mlive had : Nat → Int32) (mser mcur mrd mwt worn : Int32) (pg : Nat → Int32) (pla sou fou : Int32) : va_W := [(am 0, .inr (5, [.int th, .ref (am 1), .ref (am 2), .ref (am 3), .ref (am 4), .int on, .int cut, .int mrec, .ref (am 5), .ref (am 6), .ref (am 7), .int mser, .int mcur, .int mrd, .int mwt, .int worn, .ref (am 8), .int pla, .int sou, .int fou])), (am 1, .inl (cm 1, 512, .inl mw)), (am 2, .inl (cm 2, 8, .inl mwr)), (am 3, .inl (cm 3, 8, .inl mfl)), (am 4, .inl (cm 4, 40, .inl mact)), (am 5, .inl (cm 5, 192, .inl mlog)), (am 6, .inl (cm 6, 16, .inl mlive)), (am 7, .inl (cm 7, 16, .inl had)), (am 8, .inl (cm 8, 16, .inl pg))]
def mt (cm : Nat → Nat) : List (ClassId × FieldType) := [(cm 1, .int), (cm 2, .int), (cm 3, .boolean), (cm 4, .boolean), (cm 5, .int), (cm 6, .int), (cm 7, .int), (cm 8, .int)]
theorem xw_D {B : Nat → Prop} {ad cd : Nat → Nat} {sz : Nat} {w wr fl : Nat → Int32} {pw sc : Int32} {lw rot vb : Nat → Int32} {rec tk : Int32} {live row : Nat → Int32} {cur ser dur wo : Int32} {bts : Nat → Int32} {us : Int32} {act : Nat → Int32} {rd rs : Int32} (h : va_D B (xw ad cd w wr fl pw sc lw rot vb rec tk live row cur ser dur wo bts us act rd rs)) : va_D (xA 15 ad sz) (xw ad cd w wr fl pw sc lw rot vb rec tk live row cur ser dur wo bts us act rd rs) := by
  refine ⟨h.1, fun k q hk => ?_⟩
  have hl : k < 15 := (List.getElem?_eq_some_iff.mp hk).1
  rcases (show k = 0 ∨ k = 1 ∨ k = 2 ∨ k = 3 ∨ k = 4 ∨ k = 5 ∨ k = 6 ∨ k = 7 ∨ k = 8 ∨ k = 9 ∨ k = 10 ∨ k = 11 ∨ k = 12 ∨ k = 13 ∨ k = 14 by omega) with rfl | rfl | rfl | rfl | rfl | rfl | rfl | rfl | rfl | rfl | rfl | rfl | rfl | rfl | rfl <;> (cases hk; exact Or.inl ⟨_, hl, rfl⟩)
theorem xw_J {A : Nat → Prop} {B : Nat → Prop} {ad cd : Nat → Nat} {w wr fl : Nat → Int32} {pw sc : Int32} {lw rot vb : Nat → Int32} {rec tk : Int32} {live row : Nat → Int32} {cur ser dur wo : Int32} {bts : Nat → Int32} {us : Int32} {act : Nat → Int32} {rd rs : Int32} (h : va_D B (xw ad cd w wr fl pw sc lw rot vb rec tk live row cur ser dur wo bts us act rd rs)) (hA : ∀ k, k < 15 → A (ad k)) : va_D A (xw ad cd w wr fl pw sc lw rot vb rec tk live row cur ser dur wo bts us act rd rs) := by
  refine ⟨h.1, fun k q hk => ?_⟩
  have hl : k < 15 := (List.getElem?_eq_some_iff.mp hk).1
  rcases (show k = 0 ∨ k = 1 ∨ k = 2 ∨ k = 3 ∨ k = 4 ∨ k = 5 ∨ k = 6 ∨ k = 7 ∨ k = 8 ∨ k = 9 ∨ k = 10 ∨ k = 11 ∨ k = 12 ∨ k = 13 ∨ k = 14 by omega) with rfl | rfl | rfl | rfl | rfl | rfl | rfl | rfl | rfl | rfl | rfl | rfl | rfl | rfl | rfl <;> (cases hk; exact hA _ hl)
theorem mw_D {B : Nat → Prop} {am cm : Nat → Nat} {sz : Nat} {th : Int32} {mw mwr mfl mact : Nat → Int32} {on cut mrec : Int32} {mlog mlive had : Nat → Int32} {mser mcur mrd mwt worn : Int32} {pg : Nat → Int32} {pla sou fou : Int32} (h : va_D B (mw_ am cm th mw mwr mfl mact on cut mrec mlog mlive had mser mcur mrd mwt worn pg pla sou fou)) : va_D (xA 9 am sz) (mw_ am cm th mw mwr mfl mact on cut mrec mlog mlive had mser mcur mrd mwt worn pg pla sou fou) := by
  refine ⟨h.1, fun k q hk => ?_⟩
  have hl : k < 9 := (List.getElem?_eq_some_iff.mp hk).1
  rcases (show k = 0 ∨ k = 1 ∨ k = 2 ∨ k = 3 ∨ k = 4 ∨ k = 5 ∨ k = 6 ∨ k = 7 ∨ k = 8 by omega) with rfl | rfl | rfl | rfl | rfl | rfl | rfl | rfl | rfl <;> (cases hk; exact Or.inl ⟨_, hl, rfl⟩)
theorem mw_J {A : Nat → Prop} {B : Nat → Prop} {am cm : Nat → Nat} {th : Int32} {mw mwr mfl mact : Nat → Int32} {on cut mrec : Int32} {mlog mlive had : Nat → Int32} {mser mcur mrd mwt worn : Int32} {pg : Nat → Int32} {pla sou fou : Int32} (h : va_D B (mw_ am cm th mw mwr mfl mact on cut mrec mlog mlive had mser mcur mrd mwt worn pg pla sou fou)) (hA : ∀ k, k < 9 → A (am k)) : va_D A (mw_ am cm th mw mwr mfl mact on cut mrec mlog mlive had mser mcur mrd mwt worn pg pla sou fou) := by
  refine ⟨h.1, fun k q hk => ?_⟩
  have hl : k < 9 := (List.getElem?_eq_some_iff.mp hk).1
  rcases (show k = 0 ∨ k = 1 ∨ k = 2 ∨ k = 3 ∨ k = 4 ∨ k = 5 ∨ k = 6 ∨ k = 7 ∨ k = 8 by omega) with rfl | rfl | rfl | rfl | rfl | rfl | rfl | rfl | rfl <;> (cases hk; exact hA _ hl)
/-- a free page -/
def fp (w : Nat → Int32) (p : Nat) : Prop := ∀ i, i < 16 → w (16 * p + i) = -1
theorem m1_ne {n : Nat} (h : n < 2 ^ 31) : nI n ≠ -1 := fun q => by
  have h1 : (nI n).toInt = (-1 : Int32).toInt := by rw [q]
  rw [nI_toInt h] at h1
  have h2 : (-1 : Int32).toInt = -1 := by decide
  omega
theorem upd_lt {f : Nat → Int32} {k : Nat} {v : Int32} (h : ∀ i, i < k → f i = v) : ∀ i, i < k + 1 → upd f k v i = v := fun i hi => by
  by_cases e : i = k
  · rw [e]; exact pk_us
  · rw [pk_un e]; exact h i (by omega)
theorem upd_all {f : Nat → Int32} {k n : Nat} {v : Int32} (h : ∀ i, i < n → f i = v) : ∀ i, i < n → upd f k v i = v := fun i hi => by
  by_cases e : i = k
  · rw [e]; exact pk_us
  · rw [pk_un e]; exact h i hi
theorem sw_in (x : Int32) (n : Nat) (hn : n < 2 ^ 31 := by decide) : (x.toInt < 0 ∨ (n : Int) < x.toInt) ∨ ∃ j : Nat, j ≤ n ∧ x = nI j := by
  by_cases h : x.toInt < 0 ∨ (n : Int) < x.toInt
  · exact Or.inl h
  · refine Or.inr ⟨x.toInt.toNat, by omega, Int32.toInt_inj.mp ?_⟩
    rw [nI_toInt (by omega)]
    omega
/-- what state(what) answers at the start -/
def stv (x : Int32) : Int32 := if x = nI 6 then -1 else if x = nI 7 then nI 32 else if x = nI 8 then nI 1 else if x.toInt < 0 ∨ 8 < x.toInt then -1 else nI 0
theorem stv_out {x : Int32} (h : x.toInt < 0 ∨ (8 : Int) < x.toInt) : stv x = -1 := by
  have e : ∀ j : Nat, j ≤ 8 → x ≠ nI j := fun j hj q => by
    rw [q, nI_toInt (by omega)] at h
    omega
  unfold stv
  rw [if_neg (e 6 (by decide)), if_neg (e 7 (by decide)), if_neg (e 8 (by decide)), if_pos h]
theorem not_tk {n : Int32} (z : (1 : Int32) ≤ n ∧ n ≤ nI 0) : False := by
  have h1 := Int32.le_iff_toInt_le.mp z.1
  have h2 := Int32.le_iff_toInt_le.mp z.2
  rw [nI_toInt (by decide)] at h2
  have h3 : (1 : Int32).toInt = 1 := by decide
  omega
theorem z_mx (x : Int32) : nI 0 < (if x < nI 1 then nI 1 else x) := by
  split
  · decide
  · next h =>
    have h1 := Int32.not_lt.mp h
    have h2 := Int32.le_iff_toInt_le.mp h1
    rw [Int32.lt_iff_toInt_lt]
    rw [nI_toInt (by decide)] at *
    omega
theorem mn_mx (t x : Int32) : (if nI 0 < t then nI 0 else t) < (if x < nI 1 then nI 1 else x) := by
  have h1 := Int32.lt_iff_toInt_lt.mp (z_mx x)
  rw [Int32.lt_iff_toInt_lt]
  rw [nI_toInt (by decide)] at h1
  split
  · rw [nI_toInt (by decide)]; exact h1
  · next h =>
    have h3 := Int32.le_iff_toInt_le.mp (Int32.not_lt.mp h)
    rw [nI_toInt (by decide)] at h3
    omega
end
section
/-! methods that throw: what they end in, how a caller passes it on, how it is caught -/
/-- one of Throwable's two statics, at the cell a: a reference or null -/
def tz1 (n d : String) (U : State) (H : Heap) (a : Nat) : Prop := ∃ (c : ClassId) (k : Class) (i : Nat) (f : Field) (cell : Cell) (v : Value), U.vm.findClass Bundle.tN = some c ∧ U.fieldFound? Bundle.tN n d = some (c, k, i, f) ∧ f.isStatic = true ∧ k.statics = some a ∧ H[a]? = some cell ∧ cell.vm.isStatics = true ∧ cell.cls = c ∧ f.slot < cell.slots.size ∧ k.staticTypes[f.slot]? = some f.type ∧ cell.slots[f.slot]? = some v ∧ v.isRef = true
def tz (U : State) (H : Heap) (a : Nat) : Prop := tz1 "UNASSIGNED_STACK" Bundle.steD U H a ∧ tz1 "SUPPRESSED_SENTINEL" Bundle.listD U H a
theorem tz1.moved {n d : String} {u U : State} {H H1 : Heap} {a : Nat} (hvm : u.vm.Alike U.vm) (hq : H1[a]? = H[a]?) (h : tz1 n d u H a) : tz1 n d U H1 a := by
  obtain ⟨c, k, i, f, cell, v, h1, h2, h3, h4, h5, h6, h7, h8, h9, h10, h11⟩ := h
  obtain ⟨k', hi', he⟩ := State.fieldFound?_setVm hvm h2
  exact ⟨c, k', i, f, cell, v, by rw [hvm.findClass]; exact h1, hi', h3, by rw [he]; exact h4, by rw [hq]; exact h5, h6, h7, h8, by rw [he]; exact h9, h10, h11⟩
theorem tz.moved {u U : State} {H H1 : Heap} {a : Nat} (hvm : u.vm.Alike U.vm) (hq : H1[a]? = H[a]?) (h : tz u H a) : tz U H1 a := ⟨h.1.moved hvm hq, h.2.moved hvm hq⟩
theorem tz1.lays {n d : String} {s : State} {a : Nat} {args : Array Value} (h : tz1 n d s s.heap a) : (Cond.laysStatic Bundle.tN n d).before args s = true := by
  obtain ⟨c, k, i, f, cell, v, h1, h2, h3, h4, h5, h6, h7, h8, h9, -⟩ := h
  exact Cond.laysStatic_of h1 h2 h3 h4 h5 h6 h7 h8 h9
theorem tz1.ref {n d : String} {s : State} {a : Nat} {args : Array Value} (h : tz1 n d s s.heap a) : (Cond.isRef (.static Bundle.tN n d)).before args s = true := by
  obtain ⟨c, k, i, f, cell, v, h1, h2, h3, h4, h5, h6, h7, h8, h9, h10, h11⟩ := h
  have he : (Term.static Bundle.tN n d).eval args s none [] s = some v := by
    simp [Term.eval, State.fieldNamed?, h2, h3, h4, h5, h6, h10]
  simp only [Cond.before, Cond.holds, Cond.value, he]
  cases v <;> simp_all [Value.isRef]
/-- a method that throws an E, and has written nothing that was there before -/
def thQ (E : String) : Array Value → State → Outcome → State → Prop := fun _ st o t => ∃ (q : Addr) (ce : Cell), o = .threw q ∧ t.heap[q]? = some ce ∧ ce.vm = .none ∧ st.vm.findClass E = some ce.cls ∧ st.WarmedH t.vm ∧ st.sameButNew ({ t with vm := st.vm } : State) [] 1 6
def Thr (l : Launch) (y : MethodName) (ws : List Cond) (rm : Room) (Pc : Array Value → State → Prop) (E : String) : Prop := MetFree l y (headSpec ws rm) Pc (fun _ _ _ _ _ => True) (thQ E)
def tQ (below : List Frame) (a : Array Value) (s : State) (E : String) : State → Prop := fun t => ∃ o, t.status = .running ∧ Ended t below o ∧ thQ E a s o t
theorem no_rows {c : Code} (h : c.exceptionTable.isEmpty = true) (pc : Nat) : ∀ x ∈ c.exceptionTable.toList, covers x pc = false := by
  intro x hx
  have h1 : c.exceptionTable = #[] := by simpa using h
  rw [h1] at hx
  simp at hx
theorem Thr.ofW {l : Launch} {y : MethodName} {ws ws' : List Cond} {rm : Room} {Pc : Array Value → State → Prop} {E : String} {cc : ByteArray} {maxL : Nat} {ret : Option FieldType}
    (hy : plainName y.cls = true) (hw : ws = Cond.code y cc maxL ret :: ws')
    (body : ∀ p e s m args below meth c s₁, BodyLoose p l y (headSpec ws rm) cc maxL ret e s m args below meth c s₁ → c.maxLocals = maxL → c.exceptionTable.isEmpty = true → Pc args s →
      W p l e (headSpec ws rm).room s m args below meth c s.heap [] 0 0 (tQ below args s E) (entryFrame m args maxL)) : Thr l y ws rm Pc E := by
  refine MetFree.of_bodyS (code := cc) (maxLocals := maxL) (ret := ret) hy ?_ ?_
  · intro args s m h hn
    obtain ⟨meth, c, h1, h2, h3, h4, h5, h6, -, -⟩ := Cond.code_spec hn (atoms_spec (ws := ws) h _ (by rw [hw]; exact List.mem_cons_self))
    exact ⟨meth, c, h1, h2, h3, h4, h5, h6⟩
  · intro p e s m args below meth c s₁ B hml hP _
    have hh0 : s₁.heap = s.heap := by rw [B.state]; rfl
    have hnt := B.noHandlers (atoms_spec (ws := ws) B.pre _ (by rw [hw]; exact List.mem_cons_self))
    obtain ⟨t, a1, o, b1, b2, b3⟩ := body p e s m args below meth c s₁ B hml hnt hP s₁ hh0 (Stand.of_body B)
    exact ⟨t, o, a1, b1, b2, b3⟩
theorem same_frame {s U : State} {k n : Nat} (h : s.sameButNew U [] k n) : s.heap.size ≤ U.heap.size ∧ ∀ q : Nat, q < s.heap.size → U.heap[q]? = s.heap[q]? := by
  obtain ⟨-, h2, -, -, -, h6⟩ := h
  refine ⟨h2, fun q hq => ?_⟩
  obtain ⟨c9, e1, e2, e3, e4⟩ := h6 q _ (Array.getElem?_eq_getElem hq)
  have hs : c9.slots = (s.heap[q]).slots := Array.ext_getElem? fun i => e4 i (by simp)
  rw [hs] at e2
  have h9 : c9 = s.heap[q] := e2
  rw [e1, h9, Array.getElem?_eq_getElem hq]
section TH
variable {p : Program} {l : Launch} {e : Env} {R : Room} {s : State} {m : MethodId} {args : Array Value} {below : List Frame} {meth : Method} {c : Code}
/-- 'throw new E()' as a method's first deed: new; dup; invokespecial; athrow -/
theorem th_new {cc : ByteArray} {pc : Nat} {ls : Array Slot} (hexec : p.tables.exec = Jvm.exec) (hb : c.code = cc) (hl : l.stackTraces = false) {own cls : String} {names : List String} {ik ic : Nat}
    (hown : s.vm.findClass own = some m.cls) (hcls : Bundle.fit cls = true) (hnames : ∀ n ∈ names, Bundle.fit n = true)
    (hk : (Cond.classLink own ik cls).before args s = true) (hini : (Cond.initialized cls).before args s = true) (h : ∀ w ∈ Bundle.ownAtoms0 own ic cls names, w.before args s = true) (hsize : ls.size = c.maxLocals)
    (d0 : decode cc pc = .ok (.new ik, 3)) (d3 : decode cc (pc + 3) = .ok (.dup, 1)) (d4 : decode cc (pc + 4) = .ok (.invokespecial ic, 3)) (d7 : decode cc (pc + 7) = .ok (.athrow, 1))
    (hout : c.exceptionTable.isEmpty = true) (hRf : names.length + 3 < R.frames) (hRl : 13 * (names.length + 1) + 43 ≤ R.locals) (hRc : 1 ≤ R.cells) (hRs : 6 ≤ R.slots) (hlocks : meth.locks = false) :
    W p l e R s m args below meth c s.heap [] 0 0 (tQ below args s cls) (F0 m pc ls []) := by
  intro T hT X
  have htr : e.platform.stackTraces = false := (show e.platform.stackTraces = l.stackTraces by rw [X.admits.platform]).trans hl
  have hins : (Cond.instantiable cls 6).before args s = true := h _ (by simp [Bundle.ownAtoms0])
  obtain ⟨vm₁, cX, kX, hfX, hkX, -, -, X₁, st1⟩ := X.newCold hexec (own := own) (C := cls) (index := ik) (n := 6) hown hk hins hini (g := F0 m pc ls []) rfl (by rw [hb]; exact d0) (by omega) (by omega)
  generalize hT1 : (T.setVm vm₁).pushCell { cls := cX, slots := kX.instanceTypes.map defaultValue, vm := .none } = T1 at X₁ st1
  have hcellA : T1.heap[T.heap.size]? = some (freshCell cX kX) := by rw [← hT1]; exact State.heap_pushCell_size _ _
  have d3' : decode c.code (pc + 3) = .ok (.dup, 1) := by rw [hb]; exact d3
  obtain ⟨U, hsteps, hrun, hend, hW, hsame, ce, hce, hO⟩ := X₁.ctorThrow0 hexec htr (own := own) (cls := cls) (names := names) (ic := ic) hown hcls hnames h (fun x hx => nomatch hx) hfX hkX hcellA (by rw [hT]; exact Nat.le_refl _)
    (g := { method := m, pc := pc + 4, locals := ls, stack := .ref T.heap.size :: .ref T.heap.size :: [], locked := none }) rfl hsize rfl rfl (rest := []) rfl
    (by rw [hb]; exact d4) (by rw [hb]; exact d7) (no_rows hout _) hRf (by simp [Value.category]; omega) hlocks
  refine ⟨U, ?_, .threw T.heap.size, hrun, hend, T.heap.size, ce, rfl, hce, hO.vm, hO.cls, hW, hsame⟩
  refine st1 _ ?_
  show Steps p.tables e below (T1.setTop { method := m, pc := pc + 3, locals := ls, stack := .ref T.heap.size :: [], locked := none }) _
  jvm_step X₁.here [X₁.here.top, hexec, d3', Value.category]
  exact hsteps
end TH
end
section
/-! a call that throws: what the caller stands at then -/
section TB
variable {p : Program} {l : Launch} {e : Env} {R : Room} {s : State} {m : MethodId} {args : Array Value} {below : List Frame} {meth : Method} {c : Code} {y : MethodName} {ws : List Cond} {rm : Room} {Pc : Array Value → State → Prop} {E : String} {maxL : Nat}
/-- the exception q of class E lies over the frame g; nothing that was there in H was written -/
def thAt (p : Program) (l : Launch) (e : Env) (R : Room) (s : State) (m : MethodId) (args : Array Value) (below : List Frame) (meth : Method) (c : Code) (H : Heap) (locs : List Loc) (cells slots : Nat) (E : String) (g : JFrame) (S : State) : Prop :=
  ∃ (q : Addr) (T' : State) (ce : Cell), Stand p l e R s m args below meth c T' locs (cells + 1) (slots + 6) ∧ T'.heap[q]? = some ce ∧ ce.vm = .none ∧ s.vm.findClass E = some ce.cls ∧ H.size ≤ T'.heap.size ∧ (∀ z : Nat, z < H.size → T'.heap[z]? = H[z]?) ∧
    Steps p.tables e below S ((T'.setTop g).pushFrame (.throwing q))
theorem th_back (hM : Thr l y ws rm Pc E) (hblind : FrameBlind Pc) (hrc : rm.cells = 1) (hrs : rm.slots = 6) (hframes : rm.frames + 1 ≤ R.frames) (hlocals : 8 + (maxL + 11) + rm.locals ≤ R.locals)
    (hws : ∀ w ∈ ws, ∀ a' U, s.WarmedH U.vm → w.before a' U = true) {bytes : ByteArray} {ret : Option FieldType} (hcode : Cond.code y bytes maxL ret ∈ ws) (hinit : ∀ a' U, s.WarmedH U.vm → (Cond.initialized y.cls).before a' U = true)
    {U : State} {locs : List Loc} {cells slots : Nat} (X : Stand p l e R s m args below meth c U locs cells slots) {g : JFrame} (hg : g.method = m) (hsize : g.locals.size = c.maxLocals) {ig : Instr} {len : Nat} (hdg : decode c.code g.pc = .ok (ig, len))
    {mk : MethodId} {a : Array Value} (hn : U.methodNamed? y = some mk) (hW : 2 * g.monitorRoom + (g.stack.map fun v => v.category).sum ≤ 8) (hc : cells + 1 ≤ R.cells) (hs : slots + 6 ≤ R.slots) (hPc : Pc a U) :
    thAt p l e R s m args below meth c U.heap locs cells slots E g (doInvoke e (U.setTop g) [] mk a).1 := by
  have h2 : (Cond.code y bytes maxL ret).before a U = true := hws _ hcode _ _ X.warmed
  obtain ⟨methY, cY, hmY, hcY, -, hlY, -, -, -, -⟩ := Cond.code_spec hn h2
  obtain ⟨kY, hkY, -⟩ := className_of_methodNamed hn
  have hinitY : kY.init = .initialized := Cond.initialized_spec (findClass_of_methodNamed hn) hkY (hinit a U X.warmed)
  have h : At U g.method c below := by rw [hg]; exact X.here
  have happ : (headSpec ws rm).appliesLoose y e.platform (U.calling g mk a) = true :=
    Spec.appliesLoose_calling (g := g) h hdg hn hkY hinitY
      (X.room_calling (g := g) (R' := (headSpec ws rm).room) hsize hmY hcY hframes (by rw [hlY]; have : (headSpec ws rm).room.locals = rm.locals := rfl; omega) (by rw [show (headSpec ws rm).room.cells = 1 from hrc]; exact hc) (by rw [show (headSpec ws rm).room.slots = 6 from hrs]; exact hs)) (atoms_intro fun w hw => hws w hw _ _ X.warmed)
  obtain ⟨mid, hmid⟩ := h.above
  have hfr : (U.setTop g).frames = (.java g :: mid) ++ below := by rw [State.frames_setTop' g h.top, hmid]; rfl
  obtain ⟨o, s₂, hsteps, -, hend, q, ce, rfl, hce, hcv, hcl, hW₂, hsm⟩ := Steps.callFree hM p X.admits X.cas X.clock (acts := []) hfr happ (hblind _ _ _ _ hPc) trivial
  rw [State.frames_setTop' g h.top, X.tail] at hend
  obtain ⟨T', X', hWT, hsame, e1⟩ := X.outOfThrown hg (mk := mk) (a := a) hend hW₂ hsm
  rw [List.append_nil] at X'
  obtain ⟨f1, f2⟩ := same_frame hsame
  have hh : T'.heap = s₂.heap := by rw [e1]; exact (throwing_heap T' g q).symm
  refine ⟨q, T', ce, X', by rw [hh]; exact hce, hcv, ?_, f1, f2, by rw [← e1]; exact hsteps⟩
  have hcl' : U.vm.findClass E = some ce.cls := hcl
  rw [X.warmed.alike.findClass] at hcl'
  exact hcl'
variable {own : String} {index n : Nat} {bytes : ByteArray} {ret : Option FieldType} {cc : ByteArray} {nL : Nat} {Ts : List Cond} {As rest : List Value}
theorem th_runS (S : CallFix p m c cc nL s args Ts own) (hM : Thr l y ws rm Pc E) (cw : CallB R s args own index y bytes maxL ret ws rm 1 6 n ∧ (Cond.static y).before args s = true) {H : Heap} (hp : PreS s H Pc As)
    {g : JFrame} (hg : g.method = m) (hn : As.length = n) (hsize : g.locals.size = nL) (hstack : g.stack = As.reverse ++ rest) (hW : 2 * g.monitorRoom + (rest.map fun v => v.category).sum ≤ 8) (hdg : decode cc g.pc = .ok (.invokestatic index, 3))
    {locs : List Loc} {cells slots : Nat} (hf : cells + 1 ≤ R.cells ∧ slots + 6 ≤ R.slots) {T : State} (hT : T.heap = H) (X : Stand p l e R s m args below meth c T locs cells slots) :
    thAt p l e R s m args below meth c H locs cells slots E { g with stack := rest } (T.setTop g) := by
  obtain ⟨⟨hrc, hrs, hfr, hlo, hws, hcw, hcode, hini, hy, hlen, hl⟩, hstt⟩ := cw
  obtain ⟨hx, hb, hml, ho, -⟩ := S
  obtain ⟨mk, hnamed⟩ := Cond.code_named hcode
  obtain ⟨methM, cM, hmethM, -, -, -, -, -, -, hsigM⟩ := Cond.code_spec hnamed hcode
  obtain ⟨kP, hkP, -⟩ := className_of_methodNamed hnamed
  have hdg' : decode c.code g.pc = .ok (.invokestatic index, 3) := by rw [hb]; exact hdg
  obtain ⟨vm₁, X₁, hstep₁⟩ := X.invokestatic hx ho hl hnamed hmethM (Cond.static_spec hnamed hmethM hstt) hkP (Cond.initialized_spec (findClass_of_methodNamed hnamed) hkP hini) hy (g := g) hg (argsL := As) (rest := rest) (hn.trans (hlen _ hsigM)) hstack hdg'
  obtain ⟨q, T', ce, X', k1, k2, k3, k4, k5, k6⟩ := th_back (bytes := bytes) (ret := ret) hM hp.1 hrc hrs hfr hlo hws hcw (fun a' U hW => word_at hW (Or.inl (by first | rfl | simp [Cond.onTables, Cond.keeps, Cond.steady])) hini) X₁ (g := { g with stack := rest }) hg (hsize.trans hml.symm) hdg' (a := As.toArray) (X₁.named hnamed) hW hf.1 hf.2 (hp.2 _ hT X₁.warmed)
  have e1 : (T.setVm vm₁).heap = H := hT
  rw [e1] at k4 k5
  exact ⟨q, T', ce, X', k1, k2, k3, k4, k5, hstep₁ _ fun acts => by rw [doInvoke_state]; exact k6⟩
theorem th_runV {C : String} {b : Addr} (S : CallFix p m c cc nL s args Ts own) (hM : Thr l y ws rm Pc E) (cw : CallW R s args own C index y bytes maxL ret ws rm 1 6 n) {H : Heap} (hp : PreV s H C b Pc As)
    {g : JFrame} (hg : g.method = m) (hn : As.length = n) (hsize : g.locals.size = nL) (hstack : g.stack = As.reverse ++ .ref b :: rest) (hW : 2 * g.monitorRoom + (rest.map fun v => v.category).sum ≤ 8) (hdg : decode cc g.pc = .ok (.invokevirtual index, 3))
    {locs : List Loc} {cells slots : Nat} (hf : cells + 1 ≤ R.cells ∧ slots + 6 ≤ R.slots) {T : State} (hT : T.heap = H) (X : Stand p l e R s m args below meth c T locs cells slots) :
    thAt p l e R s m args below meth c H locs cells slots E { g with stack := rest } (T.setTop g) := by
  obtain ⟨⟨hrc, hrs, hfr, hlo, hws, hcw, hcode, hini, hy, hlen, hl⟩, hinst, hsel⟩ := cw
  obtain ⟨hx, hb, hml, ho, -⟩ := S
  obtain ⟨hbl, ⟨cellB, hcB, hoB, hclB⟩, hPc⟩ := hp
  obtain ⟨mk, methM, hnamed, hmethM, hstM, habM⟩ := Cond.instanceMethod_spec hinst
  obtain ⟨methM', cM, hmethM', -, -, -, -, -, -, hsigM⟩ := Cond.code_spec hnamed hcode
  cases hmethM.symm.trans hmethM'
  obtain ⟨c2, r2, m2, q1, q2, q3, q4, kP, hkP, hkPi⟩ := Cond.selects_spec hsel
  cases hclB.symm.trans q1
  cases (State.methodFound?_of_named hnamed hy).symm.trans q2
  cases hnamed.symm.trans q3
  have hselP : selectMethod e.platform s.vm cellB.cls mk = .method mk := by rw [Launch.admits_selectMethod X.admits]; exact q4
  have hdg' : decode c.code g.pc = .ok (.invokevirtual index, 3) := by rw [hb]; exact hdg
  obtain ⟨vm₁, X₁, hstep₁⟩ := X.invokevirtual hx ho hl hnamed hmethM hstM hkP hkPi hy (a := b) (cell := cellB) (by rw [hT]; exact hcB) (fun z h => by rw [h] at hoB; cases hoB) hselP hmethM habM hkP hkPi (g := g) hg (argsL := As) (rest := rest) (hn.trans (hlen _ hsigM)) hstack hdg'
  obtain ⟨q, T', ce, X', k1, k2, k3, k4, k5, k6⟩ := th_back (bytes := bytes) (ret := ret) hM hbl hrc hrs hfr hlo hws hcw (fun a' U hW => word_at hW (Or.inl (by first | rfl | simp [Cond.onTables, Cond.keeps, Cond.steady])) hini) X₁ (g := { g with stack := rest }) hg (hsize.trans hml.symm) hdg' (a := (Value.ref b :: As).toArray) (X₁.named hnamed) hW hf.1 hf.2 (hPc _ hT X₁.warmed)
  have e1 : (T.setVm vm₁).heap = H := hT
  rw [e1] at k4 k5
  exact ⟨q, T', ce, X', k1, k2, k3, k4, k5, hstep₁ _ fun acts => by rw [doInvoke_state]; exact k6⟩
/-- .. and no row of this method's takes it: it goes on to the caller -/
theorem th_out {pc : Nat} {ls : Array Slot} {st0 : List Value} (hnt : c.exceptionTable.isEmpty = true) (hlocks : meth.locks = false)
    (h : ∀ T : State, T.heap = s.heap → Stand p l e R s m args below meth c T [] 0 0 → thAt p l e R s m args below meth c s.heap [] 0 0 E (F0 m pc ls rest) (T.setTop (F0 m pc ls st0))) :
    W p l e R s m args below meth c s.heap [] 0 0 (tQ below args s E) (F0 m pc ls st0) := by
  intro T hT X
  obtain ⟨q, T', ce, X', k1, k2, k3, k4, k5, k6⟩ := h T hT X
  obtain ⟨st1, hrun, hend, hW, hsm⟩ := X'.leaveThrown q (g := F0 m pc ls rest) rfl rfl rfl (no_rows hnt _) hlocks
  exact ⟨_, k6.trans st1, .threw q, hrun, hend, q, ce, rfl, k1, k2, k3, hW, hsm⟩
end TB
end
section
/-! a row of the method's own table takes the exception -/
/-- the search ends at a handler, and has noted classes on its way -/
def fdTo (e : Env) (s : State) (f : JFrame) (a : Addr) (h : Handler) (vm' : Vm) : Prop := ∀ (Q : Handler → Pre) (E : CtlPost) (d : Bool) (acts : List Action), wp (findHandler f a) Q E e d acts s ↔ Q h d acts (s.setVm vm')
theorem fd_step {e : Env} {s : State} {a : Addr} {f : JFrame} {r : List Frame} {pc : Nat} {vm' : Vm} (h : fdTo e s f a (.found pc) vm') :
    (stepThrowing e s a (.java f :: r)).Is ((s.setVm vm').setFrames (.java { f with pc := pc, stack := [.ref a] } :: r)) [] := by
  simp only [stepThrowing, searchFrame, vmDo]
  generalize hr : Sem.go _ e false [] s = res
  obtain ⟨as, rfl, ha⟩ := Sem.eq_ok_of hr (a := Handler.found pc) (s' := s.setVm vm') (acts' := []) (by simp [h _ _ _ _])
  exact ⟨rfl, ha⟩
theorem fd_steps {tb : Tables} {e : Env} {s target : State} {g : JFrame} {c : Code} {below : List Frame} {a : Addr} (h : At s g.method c below) {pc : Nat} {vm' : Vm}
    (hfind : fdTo e ((s.setTop g).pushFrame (.throwing a)) g a (.found pc) vm') (hrest : Steps tb e below ((s.setVm vm').setTop { g with pc := pc, stack := [.ref a] }) target) :
    Steps tb e below ((s.setTop g).pushFrame (.throwing a)) target := by
  obtain ⟨hgo, hw⟩ := h.throwing a
  obtain ⟨g₀, hg⟩ := Option.isSome_iff_exists.mp h.top
  obtain ⟨r, hr⟩ := State.topJava?_eq_some.mp hg
  refine Steps.head hgo hw ?_
  rw [stepThread_throwing (frames_entered h.top _), (fd_step hfind).1]
  have hr' : (s.setVm vm').frames = .java g₀ :: r := hr
  rw [State.setTop_of_frames _ hr'] at hrest
  have c1 : ∀ (u : State) (F G : List Frame), ((u.setFrames F).setVm vm').setFrames G = (u.setVm vm').setFrames G := fun u F G => by
    show ((u.setVm vm').setFrames F).setFrames G = _
    rw [State.setFrames_setFrames]
  rw [hr, List.tail_cons, State.pushFrame, c1, State.setTop_of_frames _ hr, c1]
  exact hrest
section FDG
variable {Q : Handler → Pre} {E : CtlPost} {e : Env} {d : Bool} {acts : List Action} {s : State} {f : JFrame} {a : Addr} {x : ExceptionTableEntry} {t : List ExceptionTableEntry} {c : ClassId} {cell : Cell}
theorem fd_yes (hx : covers x f.pc = true) (h0 : x.catchType ≠ 0) (hl : s.vm.ClassLinks e.platform f.method.cls x.catchType c) (hcell : s.heap[a]? = some cell) (hobj : ∀ k, cell.vm ≠ .statics k)
    (hk : ∃ k, s.vm.classes[cell.cls]? = some k) (hc : ∃ k, s.vm.classes[c]? = some k) (hfit : s.vm.assignable cell.cls c = true) :
    wp (findHandler.go f a (x :: t)) Q E e d acts s ↔ Q (.found x.handlerPc) d acts (s.setVm (s.vm.noted f.method.cls x.catchType (.cls c))) := by
  obtain ⟨ha, ht⟩ := (resolveClass_links e.toSetting hl).op (op := VmOp.resolveClass f.method.cls x.catchType) rfl
  have hal : s.vm.Alike (s.vm.noted f.method.cls x.catchType (.cls c)) := (Vm.Alike.refl s.vm).noted _ _ _
  obtain ⟨k1, hk1⟩ := hk
  obtain ⟨k2, hk2⟩ := hc
  obtain ⟨k1', hk1', -⟩ := hal.2.2 _ _ hk1
  obtain ⟨k2', hk2', -⟩ := hal.2.2 _ _ hk2
  rw [← hal.assignable] at hfit
  simp only [covers] at hx
  simp [findHandler.go, hx, h0, ha, ht, hcell, hobj, hk1', hk2', hfit, VmOp.dirties, VmOp.acts]
theorem fd_no (hx : covers x f.pc = true) (h0 : x.catchType ≠ 0) (hl : s.vm.ClassLinks e.platform f.method.cls x.catchType c) (hcell : s.heap[a]? = some cell) (hobj : ∀ k, cell.vm ≠ .statics k)
    (hk : ∃ k, s.vm.classes[cell.cls]? = some k) (hc : ∃ k, s.vm.classes[c]? = some k) (hfit : s.vm.assignable cell.cls c = false) :
    wp (findHandler.go f a (x :: t)) Q E e d acts s ↔ wp (findHandler.go f a t) Q E e d acts (s.setVm (s.vm.noted f.method.cls x.catchType (.cls c))) := by
  obtain ⟨ha, ht⟩ := (resolveClass_links e.toSetting hl).op (op := VmOp.resolveClass f.method.cls x.catchType) rfl
  have hal : s.vm.Alike (s.vm.noted f.method.cls x.catchType (.cls c)) := (Vm.Alike.refl s.vm).noted _ _ _
  obtain ⟨k1, hk1⟩ := hk
  obtain ⟨k2, hk2⟩ := hc
  obtain ⟨k1', hk1', -⟩ := hal.2.2 _ _ hk1
  obtain ⟨k2', hk2', -⟩ := hal.2.2 _ _ hk2
  rw [← hal.assignable] at hfit
  simp only [covers] at hx
  simp [findHandler.go, hx, h0, ha, ht, hcell, hobj, hk1', hk2', hfit, VmOp.dirties, VmOp.acts]
end FDG
section TC
variable {p : Program} {l : Launch} {e : Env} {R : Room} {s : State} {m : MethodId} {args : Array Value} {below : List Frame} {meth : Method} {c : Code} {H : Heap} {locs : List Loc} {cells slots : Nat} {Q : State → Prop} {E own : String} {pc : Nat} {ls : Array Slot} {rest st0 : List Value}
/-- the first row takes it -/
theorem th_catch1 {x : ExceptionTableEntry} {suf : List ExceptionTableEntry} (hrows : c.exceptionTable.toList = x :: suf) (hx : covers x pc = true) (h0 : x.catchType ≠ 0) (hown : s.vm.findClass own = some m.cls)
    (hlink : (Cond.classLink own x.catchType E).before args s = true) (hcast : (Cond.castable E E).before args s = true)
    (h : ∀ T : State, T.heap = H → Stand p l e R s m args below meth c T locs cells slots → thAt p l e R s m args below meth c H locs cells slots E (F0 m pc ls rest) (T.setTop (F0 m pc ls st0)))
    (kk : ∀ (q : Addr) (H1 : Heap), H.size ≤ H1.size → (∀ z : Nat, z < H.size → H1[z]? = H[z]?) → W p l e R s m args below meth c H1 locs (cells + 1) (slots + 6) Q (F0 m x.handlerPc ls [.ref q])) :
    W p l e R s m args below meth c H locs cells slots Q (F0 m pc ls st0) := by
  intro T hT X
  obtain ⟨q, T', ce, X', k1, k2, k3, k4, k5, k6⟩ := h T hT X
  have hpl : e.platform.magicAccessors = ({} : Platform).magicAccessors := by rw [X.admits.platform]
  obtain ⟨c3, c4, hc3, hc4, hasg⟩ := Cond.castable_spec hcast
  cases hc3.symm.trans k3
  cases hc4.symm.trans k3
  obtain ⟨c5, hc5, hcl5⟩ := Cond.classLink_spec hown hlink e.platform hpl
  cases hc5.symm.trans k3
  obtain ⟨kE, hkE, -⟩ := Vm.findClass_spec k3
  obtain ⟨dk, _, _, kt, hd, _, _, _, _, hkt, _, hopen⟩ := hcl5.here
  obtain ⟨kE', hkE', -⟩ := X'.warmed.alike.2.2 _ _ hkE
  have hW2 : s.WarmedH (T'.vm.noted m.cls x.catchType (.cls ce.cls)) := X'.warmed.noted hd hopen (State.rightAt_cls hcl5)
  have hfd : fdTo e ((T'.setTop (F0 m pc ls rest)).pushFrame (.throwing q)) (F0 m pc ls rest) q (.found x.handlerPc) (T'.vm.noted m.cls x.catchType (.cls ce.cls)) := fun Q1 E1 d1 a1 => by
    rw [W.findHandler_eq (meth := meth) (code := c) X'.method' X'.code, hrows]
    exact fd_yes (s := (T'.setTop (F0 m pc ls rest)).pushFrame (.throwing q)) (f := F0 m pc ls rest) hx h0 (X'.warmed.classLinks hcl5) k1 (fun k hk => by rw [k2] at hk; cases hk) ⟨kE', hkE'⟩ ⟨kE', hkE'⟩ (by show T'.vm.assignable _ _ = true; rw [X'.warmed.alike.assignable]; exact hasg)
  obtain ⟨t, a1, b1⟩ := kk q T'.heap k4 k5 (T'.setVm (T'.vm.noted m.cls x.catchType (.cls ce.cls))) rfl (X'.noted hW2)
  exact ⟨t, k6.trans (fd_steps X'.here hfd a1), b1⟩
/-- the first row doesn't take it, the second does -/
theorem th_catch2 {x y : ExceptionTableEntry} {suf : List ExceptionTableEntry} {N : String} (hrows : c.exceptionTable.toList = y :: x :: suf) (hy : covers y pc = true) (hy0 : y.catchType ≠ 0) (hx : covers x pc = true) (h0 : x.catchType ≠ 0) (hown : s.vm.findClass own = some m.cls)
    (hlinkN : (Cond.classLink own y.catchType N).before args s = true) (hno : va_Nc E N s) (hlink : (Cond.classLink own x.catchType E).before args s = true) (hcast : (Cond.castable E E).before args s = true)
    (h : ∀ T : State, T.heap = H → Stand p l e R s m args below meth c T locs cells slots → thAt p l e R s m args below meth c H locs cells slots E (F0 m pc ls rest) (T.setTop (F0 m pc ls st0)))
    (kk : ∀ (q : Addr) (H1 : Heap), H.size ≤ H1.size → (∀ z : Nat, z < H.size → H1[z]? = H[z]?) → W p l e R s m args below meth c H1 locs (cells + 1) (slots + 6) Q (F0 m x.handlerPc ls [.ref q])) :
    W p l e R s m args below meth c H locs cells slots Q (F0 m pc ls st0) := by
  intro T hT X
  obtain ⟨q, T', ce, X', k1, k2, k3, k4, k5, k6⟩ := h T hT X
  have hpl : e.platform.magicAccessors = ({} : Platform).magicAccessors := by rw [X.admits.platform]
  obtain ⟨c3, c4, hc3, hc4, hasg⟩ := Cond.castable_spec hcast
  cases hc3.symm.trans k3
  cases hc4.symm.trans k3
  obtain ⟨c5, hc5, hcl5⟩ := Cond.classLink_spec hown hlink e.platform hpl
  cases hc5.symm.trans k3
  obtain ⟨cN, hcN, hclN⟩ := Cond.classLink_spec hown hlinkN e.platform hpl
  obtain ⟨a8, b8, n1, n2, n3⟩ := hno
  cases n1.symm.trans k3
  cases n2.symm.trans hcN
  obtain ⟨kE, hkE, -⟩ := Vm.findClass_spec k3
  obtain ⟨kN, hkN, -⟩ := Vm.findClass_spec hcN
  obtain ⟨dk, _, _, kt, hd, _, _, _, _, hkt, _, hopen⟩ := hcl5.here
  obtain ⟨dk2, _, _, kt2, hd2, _, _, _, _, hkt2, _, hopen2⟩ := hclN.here
  have hW1 : s.WarmedH (T'.vm.noted m.cls y.catchType (.cls cN)) := X'.warmed.noted hd2 hopen2 (State.rightAt_cls hclN)
  have hW2 : s.WarmedH ((T'.vm.noted m.cls y.catchType (.cls cN)).noted m.cls x.catchType (.cls ce.cls)) := hW1.noted hd hopen (State.rightAt_cls hcl5)
  obtain ⟨kE', hkE', -⟩ := X'.warmed.alike.2.2 _ _ hkE
  obtain ⟨kN', hkN', -⟩ := X'.warmed.alike.2.2 _ _ hkN
  obtain ⟨kE2, hkE2, -⟩ := hW1.alike.2.2 _ _ hkE
  have hfd : fdTo e ((T'.setTop (F0 m pc ls rest)).pushFrame (.throwing q)) (F0 m pc ls rest) q (.found x.handlerPc) ((T'.vm.noted m.cls y.catchType (.cls cN)).noted m.cls x.catchType (.cls ce.cls)) := fun Q1 E1 d1 a1 => by
    rw [W.findHandler_eq (meth := meth) (code := c) X'.method' X'.code, hrows]
    rw [fd_no (s := (T'.setTop (F0 m pc ls rest)).pushFrame (.throwing q)) (f := F0 m pc ls rest) hy hy0 (X'.warmed.classLinks hclN) k1 (fun k hk => by rw [k2] at hk; cases hk) ⟨kE', hkE'⟩ ⟨kN', hkN'⟩ (by show T'.vm.assignable _ _ = false; rw [X'.warmed.alike.assignable]; exact n3)]
    exact fd_yes (s := ((T'.setTop (F0 m pc ls rest)).pushFrame (.throwing q)).setVm (T'.vm.noted m.cls y.catchType (.cls cN))) (f := F0 m pc ls rest) hx h0 (hW1.classLinks hcl5) k1 (fun k hk => by rw [k2] at hk; cases hk) ⟨kE2, hkE2⟩ ⟨kE2, hkE2⟩ (by show (T'.vm.noted m.cls y.catchType (.cls cN)).assignable _ _ = true; rw [hW1.alike.assignable]; exact hasg)
  obtain ⟨t, a1, b1⟩ := kk q T'.heap k4 k5 (T'.setVm ((T'.vm.noted m.cls y.catchType (.cls cN)).noted m.cls x.catchType (.cls ce.cls))) rfl (X'.noted hW2)
  exact ⟨t, k6.trans (fd_steps X'.here hfd a1), b1⟩
end TC
end
section
/-! the class's three throws -/
def E_A : String := "java/lang/IllegalArgumentException"
def E_S : String := "java/lang/IllegalStateException"
def E_I : String := "java/lang/IndexOutOfBoundsException"
def e_up : List String := ["java/lang/RuntimeException", "java/lang/Exception"]
/-- what a throw needs of the tables beside the good words -/
def e_in (c d : String) : MethodName := ⟨c, "<init>", d⟩
def e_dec : List MethodName := [e_in "java/lang/RuntimeException" "()V", e_in "java/lang/RuntimeException" "(Ljava/lang/String;)V", e_in "java/lang/Exception" "()V", e_in "java/lang/Exception" "(Ljava/lang/String;)V", e_in "java/lang/Throwable" "()V", e_in "java/lang/Throwable" "(Ljava/lang/String;)V"]
def nwz (U : State) : Prop := (va_Nw (.castable E_A E_A) U ∧ va_Nw (.castable E_S E_S) U ∧ va_Nw (.castable E_I E_I) U) ∧ ∀ y ∈ e_dec, va_Nw (.declares y) U
theorem nwz.warm {s U : State} (hW : s.WarmedH U.vm) (h : nwz s) : nwz U := ⟨⟨va_Nw.warmC hW h.1.1, va_Nw.warmC hW h.1.2.1, va_Nw.warmC hW h.1.2.2⟩, fun y hy => va_Nw.warmD hW (h.2 y hy)⟩
/-- a start that may throw: Throwable's statics lie at az -/
def tP (az : Nat) (av : List Value) : Array Value → State → Prop := va_Pc av (fun U => tz U U.heap az ∧ nwz U)
theorem tP_blind {az : Nat} {av : List Value} : FrameBlind (tP az av) := fun a U g mk q => by
  obtain ⟨q0, q1, q2⟩ := q
  exact ⟨q0, q1.moved (Vm.Alike.refl U.vm) rfl, ⟨va_Nw.same rfl rfl q2.1.1, va_Nw.same rfl rfl q2.1.2.1, va_Nw.same rfl rfl q2.1.2.2⟩, fun y hy => va_Nw.same rfl rfl (q2.2 y hy)⟩
theorem tP_s {s : State} {H : Heap} {az : Nat} {As : List Value} (hz : tz s H az) (hn : nwz s) : PreS s H (tP az As) As := ⟨tP_blind, fun U hU hW => ⟨rfl, by rw [hU]; exact hz.moved hW.alike rfl, hn.warm hW⟩⟩
def zrest (E : String) : List Cond := e_dec.map Cond.declares ++ [.castable E E, .isRef (.static Bundle.tN "UNASSIGNED_STACK" Bundle.steD), .isRef (.static Bundle.tN "SUPPRESSED_SENTINEL" Bundle.listD), .laysStatic Bundle.tN "UNASSIGNED_STACK" Bundle.steD, .laysStatic Bundle.tN "SUPPRESSED_SENTINEL" Bundle.listD]
theorem own_all {own E : String} {ic : Nat} (h1 : ((Bundle.ownAtoms0 own ic E e_up).filter goodWord).all (fun w => decide (w ∈ lw_tbl)) = true) (h2 : ((Bundle.ownAtoms0 own ic E e_up).filter (fun w => !goodWord w)).all (fun w => decide (w ∈ zrest E)) = true)
    {M : Cond} {s : State} {args : Array Value} {az : Nat} (hts : ∀ w ∈ M :: gw, w.before args s = true) (hz : tz s s.heap az) (hn : va_Nw (.castable E E) s) (hd : ∀ y ∈ e_dec, va_Nw (.declares y) s) : ∀ w ∈ Bundle.ownAtoms0 own ic E e_up, w.before args s = true := by
  intro w hw
  cases hg : goodWord w with
  | true => exact hts w (List.mem_cons_of_mem _ (gw_in (of_decide_eq_true (List.all_eq_true.mp h1 w (List.mem_filter.mpr ⟨hw, hg⟩))) hg))
  | false =>
    have h3 : w ∈ zrest E := of_decide_eq_true (List.all_eq_true.mp h2 w (List.mem_filter.mpr ⟨hw, by simp [hg]⟩))
    rcases List.mem_append.mp h3 with h4 | h3
    · obtain ⟨y, hy, rfl⟩ := List.mem_map.mp h4
      exact va_Nw.use rfl (hd y hy)
    simp only [List.mem_cons, List.not_mem_nil, or_false] at h3
    rcases h3 with rfl | rfl | rfl | rfl | rfl
    · exact va_Nw.use rfl hn
    · exact hz.1.ref
    · exact hz.2.ref
    · exact hz.1.lays
    · exact hz.2.lays
/-- a start of the class's that may throw -/
def xT (D : va_G) (cl : List vw_C) (tys : List (ClassId × FieldType)) (ws : va_W) (az : Nat) (av : List Value) : Array Value → State → Prop := va_Pc av (fun U => va_P D cl ws U.heap ∧ va_K D cl tys U ∧ tz U U.heap az ∧ nwz U)
theorem xT_blind {D : va_G} {cl : List vw_C} {tys : List (ClassId × FieldType)} {ws : va_W} {az : Nat} {av : List Value} : FrameBlind (xT D cl tys ws az av) := fun a U g mk q => by
  obtain ⟨q0, qP, qK, q1, q2⟩ := q
  exact ⟨q0, qP, va_K.moved (u := U) (U := U.calling g mk a) (Vm.Alike.refl U.vm) qK, q1.moved (Vm.Alike.refl U.vm) rfl, ⟨va_Nw.same rfl rfl q2.1.1, va_Nw.same rfl rfl q2.1.2.1, va_Nw.same rfl rfl q2.1.2.2⟩, fun y hy => va_Nw.same rfl rfl (q2.2 y hy)⟩
theorem xT_v {s : State} {H : Heap} {D : va_G} {cl : List vw_C} {tys : List (ClassId × FieldType)} {ws : va_W} {As : List Value} {b ci az : Nat} {fs : List Value} {q : vw_C} (hP : va_P D cl ws H) (hK : va_K D cl tys s) (hz : tz s H az) (hn : nwz s) (k : Nat) (he : ws[k]? = some (b, .inr (ci, fs))) (hc : cl[ci]? = some q) : PreV s H q.1 b (xT D cl tys ws az (.ref b :: As)) As :=
  ⟨xT_blind, va_recv hK hP hc he, fun U hU hW => ⟨rfl, by rw [hU]; exact hP, va_K.moved hW.alike hK, by rw [hU]; exact hz.moved hW.alike rfl, hn.warm hW⟩⟩
end
section
/-! worlds within worlds: the recorder's and the law's own array; what a wrapper may change; calls of methods that have an exception table -/
def oA (ao : Nat) (ad : Nat → Nat) (sz : Nat) : Nat → Prop := fun q => q = ao ∨ xA 15 ad sz q
theorem oA_up {ao : Nat} {ad : Nat → Nat} {a b : Nat} (h : a ≤ b) : ∀ q, oA ao ad b q → oA ao ad a q := fun q hq => hq.imp id (xA_up h q)
theorem xw_A {ad cd : Nat → Nat} {sz q : Nat} {w wr fl : Nat → Int32} {pw sc : Int32} {lw rot vb : Nat → Int32} {rec tk : Int32} {live row : Nat → Int32} {cur ser dur wo : Int32} {bts : Nat → Int32} {us : Int32} {act : Nat → Int32} {rd rs : Int32} (h : xA 15 ad sz q) : va_A (xw ad cd w wr fl pw sc lw rot vb rec tk live row cur ser dur wo bts us act rd rs) sz q := by
  rcases h with ⟨k, hk, rfl⟩ | h
  · refine Or.inl ⟨k, ?_⟩
    rcases (show k = 0 ∨ k = 1 ∨ k = 2 ∨ k = 3 ∨ k = 4 ∨ k = 5 ∨ k = 6 ∨ k = 7 ∨ k = 8 ∨ k = 9 ∨ k = 10 ∨ k = 11 ∨ k = 12 ∨ k = 13 ∨ k = 14 by omega) with rfl | rfl | rfl | rfl | rfl | rfl | rfl | rfl | rfl | rfl | rfl | rfl | rfl | rfl | rfl <;> exact ⟨_, rfl⟩
  · exact Or.inr h
theorem mw_A {am cm : Nat → Nat} {sz q : Nat} {th : Int32} {mw mwr mfl mact : Nat → Int32} {on cut mrec : Int32} {mlog mlive had : Nat → Int32} {mser mcur mrd mwt worn : Int32} {pg : Nat → Int32} {pla sou fou : Int32} (h : xA 9 am sz q) : va_A (mw_ am cm th mw mwr mfl mact on cut mrec mlog mlive had mser mcur mrd mwt worn pg pla sou fou) sz q := by
  rcases h with ⟨k, hk, rfl⟩ | h
  · refine Or.inl ⟨k, ?_⟩
    rcases (show k = 0 ∨ k = 1 ∨ k = 2 ∨ k = 3 ∨ k = 4 ∨ k = 5 ∨ k = 6 ∨ k = 7 ∨ k = 8 by omega) with rfl | rfl | rfl | rfl | rfl | rfl | rfl | rfl | rfl <;> exact ⟨_, rfl⟩
  · exact Or.inr h
theorem ow_A {ad cd : Nat → Nat} {ao co sz q : Nat} {w wr fl : Nat → Int32} {pw sc : Int32} {lw rot vb : Nat → Int32} {rec tk : Int32} {live row : Nat → Int32} {cur ser dur wo : Int32} {bts : Nat → Int32} {us : Int32} {act : Nat → Int32} {rd rs : Int32} {fo : Nat → Int64} (h : oA ao ad sz q) : va_A ((ao, .inl (co, 1, .inr (.inl fo))) :: xw ad cd w wr fl pw sc lw rot vb rec tk live row cur ser dur wo bts us act rd rs) sz q := by
  rcases h with rfl | h
  · exact Or.inl ⟨0, _, rfl⟩
  · rcases xw_A (cd := cd) (w := w) (wr := wr) (fl := fl) (pw := pw) (sc := sc) (lw := lw) (rot := rot) (vb := vb) (rec := rec) (tk := tk) (live := live) (row := row) (cur := cur) (ser := ser) (dur := dur) (wo := wo) (bts := bts) (us := us) (act := act) (rd := rd) (rs := rs) h with ⟨k, e, h⟩ | h
    · exact Or.inl ⟨k + 1, e, h⟩
    · exact Or.inr h
theorem ow_D {B : Nat → Prop} {ad cd : Nat → Nat} {ao co sz : Nat} {w wr fl : Nat → Int32} {pw sc : Int32} {lw rot vb : Nat → Int32} {rec tk : Int32} {live row : Nat → Int32} {cur ser dur wo : Int32} {bts : Nat → Int32} {us : Int32} {act : Nat → Int32} {rd rs : Int32} {fo : Nat → Int64} (h : va_D B ((ao, .inl (co, 1, .inr (.inl fo))) :: xw ad cd w wr fl pw sc lw rot vb rec tk live row cur ser dur wo bts us act rd rs)) : va_D (oA ao ad sz) ((ao, .inl (co, 1, .inr (.inl fo))) :: xw ad cd w wr fl pw sc lw rot vb rec tk live row cur ser dur wo bts us act rd rs) := by
  refine ⟨h.1, fun k q hk => ?_⟩
  have hl : k < 16 := (List.getElem?_eq_some_iff.mp hk).1
  rcases (show k = 0 ∨ k = 1 ∨ k = 2 ∨ k = 3 ∨ k = 4 ∨ k = 5 ∨ k = 6 ∨ k = 7 ∨ k = 8 ∨ k = 9 ∨ k = 10 ∨ k = 11 ∨ k = 12 ∨ k = 13 ∨ k = 14 ∨ k = 15 by omega) with rfl | rfl | rfl | rfl | rfl | rfl | rfl | rfl | rfl | rfl | rfl | rfl | rfl | rfl | rfl | rfl
  · cases hk; exact Or.inl rfl
  · cases hk; exact Or.inr (Or.inl ⟨0, by decide, rfl⟩)
  · cases hk; exact Or.inr (Or.inl ⟨1, by decide, rfl⟩)
  · cases hk; exact Or.inr (Or.inl ⟨2, by decide, rfl⟩)
  · cases hk; exact Or.inr (Or.inl ⟨3, by decide, rfl⟩)
  · cases hk; exact Or.inr (Or.inl ⟨4, by decide, rfl⟩)
  · cases hk; exact Or.inr (Or.inl ⟨5, by decide, rfl⟩)
  · cases hk; exact Or.inr (Or.inl ⟨6, by decide, rfl⟩)
  · cases hk; exact Or.inr (Or.inl ⟨7, by decide, rfl⟩)
  · cases hk; exact Or.inr (Or.inl ⟨8, by decide, rfl⟩)
  · cases hk; exact Or.inr (Or.inl ⟨9, by decide, rfl⟩)
  · cases hk; exact Or.inr (Or.inl ⟨10, by decide, rfl⟩)
  · cases hk; exact Or.inr (Or.inl ⟨11, by decide, rfl⟩)
  · cases hk; exact Or.inr (Or.inl ⟨12, by decide, rfl⟩)
  · cases hk; exact Or.inr (Or.inl ⟨13, by decide, rfl⟩)
  · cases hk; exact Or.inr (Or.inl ⟨14, by decide, rfl⟩)
section SW
variable {p : Program} {l : Launch} {e : Env} {R : Room} {s : State} {m : MethodId} {args : Array Value} {below : List Frame} {meth : Method} {c : Code} {H : Heap} {locs : List Loc} {cells slots : Nat}
variable {y : MethodName} {bytes cc : ByteArray} {maxL nL mc ms n index : Nat} {ret : Option FieldType} {hh : List (Nat × Nat × Nat × Nat)} {ws : List Cond} {rm : Room} {Pc : Array Value → State → Prop} {Qc : Array Value → State → Outcome → State → Prop} {free : Addr → Prop} {Ts : List Cond} {own : String} {As rest : List Value} {g : JFrame}
/-- a static call of a method that has an exception table -/
theorem sw_run (S : CallFix p m c cc nL s args Ts own) (hM : Met l y ws rm Pc Qc mc ms free) (hG : GoodIn Ts ws) (hcw : Cond.codeWith y bytes maxL ret hh ∈ ws) (hl : (Cond.methodLink own index y).before args s = true) (hstt : (Cond.static y).before args s = true) (hini : (Cond.initialized y.cls).before args s = true)
    (hrc : rm.cells = mc) (hrs : rm.slots = ms) (hfr : rm.frames + 1 ≤ R.frames) (hlo : 8 + (maxL + 11) + rm.locals ≤ R.locals) (hd : y.cls ≠ "java/lang/invoke/MethodHandle" ∧ y.cls ≠ "java/lang/invoke/VarHandle" ∧ (parseMethodDescriptor y.desc).map (fun d => d.parameters.length) = some n) (hp : PreS s H Pc As)
    (hg : g.method = m) (hn : As.length = n) (hsize : g.locals.size = nL) (hstack : g.stack = As.reverse ++ rest) (hW : 2 * g.monitorRoom + (rest.map fun v => v.category).sum ≤ 8) (hdg : decode cc g.pc = .ok (.invokestatic index, 3)) (hf : cells + mc ≤ R.cells ∧ slots + ms ≤ R.slots) :
    va_Run p l e R s m args below meth c H locs cells slots mc ms g rest (Qc As.toArray) free := by
  obtain ⟨hx, hb, hml, ho, hts⟩ := S
  have hK : Back l R p e below s args y 3 8 (PreOf R mc ms Pc) (PostOf Qc mc ms free) := va_backW (hh := hh) (bytes := bytes) (maxL := maxL) (ret := ret) hM hp.1 hrc hrs hfr hlo (pay_in hts hG) hcw (fun a' U hW => word_at hW (Or.inl (by first | rfl | simp [Cond.onTables, Cond.keeps, Cond.steady])) hini)
  obtain ⟨mk, methM, cM, hnamed, hmethM, -, -, -, -, -, -, hsigM⟩ := Cond.codeWith_spec (hts _ (hG _ hcw).1)
  obtain ⟨kP, hkP, -⟩ := className_of_methodNamed hnamed
  have hlen : As.length = methM.sig.parameters.length := by
    have h2 := hd.2.2
    rw [hsigM] at h2
    exact hn.trans (Option.some.inj h2).symm
  intro T hT X
  have hdg' : decode c.code g.pc = .ok (.invokestatic index, 3) := by rw [hb]; exact hdg
  obtain ⟨vm₁, X₁, hstep₁⟩ := X.invokestatic hx ho hl hnamed hmethM (Cond.static_spec hnamed hmethM hstt) hkP (Cond.initialized_spec (findClass_of_methodNamed hnamed) hkP hini) ⟨hd.1, hd.2.1⟩ (g := g) hg (argsL := As) (rest := rest) hlen hstack hdg'
  obtain ⟨v, ⟨U', l2, c2, s2⟩, X', ⟨g', mk', t, L, e1, e2, hq, h1, hL, h2, h3⟩, st⟩ := hK m meth c ⟨T.setVm vm₁, locs, cells, slots⟩ { g with stack := rest } (.invokestatic index) mk As.toArray X₁ hg (hsize.trans hml.symm) hdg' hW (X₁.named hnamed) ⟨hf.1, hf.2, hp.2 (T.setVm vm₁) hT X₁.warmed⟩
  dsimp only [Pt.U, Pt.locs, Pt.cells, Pt.slots] at X' e1 e2 h1 h2 h3 st
  subst h1; subst h2; subst h3
  exact ⟨v, (T.setVm vm₁).calling g' mk' As.toArray, t, U', L, hT, X', hL, e1, e2, hq, fun target h => hstep₁ _ fun acts => by rw [doInvoke_state]; exact st.trans h⟩
end SW
/-- a wrapper's start: its cells, Throwable's statics, what doesn't go into what -/
def oP (D : va_G) (cl : List vw_C) (tys : List (ClassId × FieldType)) (ws : va_W) (sz az : Nat) (av : List Value) : Array Value → State → Prop := va_Pc av (fun U => U.heap.size = sz ∧ va_P D cl ws U.heap ∧ va_K D cl tys U ∧ va_D (fun _ => True) ws ∧ tz U U.heap az ∧ nwz U ∧ va_Nc E_I E_S U)
theorem oP_s {s : State} {H : Heap} {D : va_G} {cl : List vw_C} {tys : List (ClassId × FieldType)} {A : Nat → Prop} {ws : va_W} {As : List Value} {az : Nat} (hP : va_P D cl ws H) (hK : va_K D cl tys s) (hD : va_D A ws) (hz : tz s H az) (hn : nwz s) (hc : va_Nc E_I E_S s) : PreS s H (oP D cl tys ws H.size az As) As :=
  ⟨fun a U g mk q => by
    obtain ⟨q0, q1, qP, qK, qD, q3, q4, q5⟩ := q
    exact ⟨q0, q1, qP, va_K.moved (u := U) (U := U.calling g mk a) (Vm.Alike.refl U.vm) qK, qD, q3.moved (Vm.Alike.refl U.vm) rfl, ⟨⟨va_Nw.same rfl rfl q4.1.1, va_Nw.same rfl rfl q4.1.2.1, va_Nw.same rfl rfl q4.1.2.2⟩, fun y hy => va_Nw.same rfl rfl (q4.2 y hy)⟩, va_Nc.moved (Vm.Alike.refl U.vm) q5⟩,
   fun U hU hW => ⟨rfl, by rw [hU], by rw [hU]; exact hP, va_K.moved hW.alike hK, hD.weaken (fun _ _ _ _ => trivial), by rw [hU]; exact hz.moved hW.alike rfl, hn.warm hW, va_Nc.moved hW.alike hc⟩⟩
theorem rows_of {c : Code} {rows : List (Nat × Nat × Nat × Nat)} (h : c.exceptionTable.toList.map (fun h => (h.startPc, h.endPc, h.handlerPc, h.catchType)) = rows) : c.exceptionTable.toList = rows.map (fun q => ⟨q.1, q.2.1, q.2.2.1, q.2.2.2⟩) := by
  rw [← h, List.map_map]
  exact (List.map_id'' (fun x => by cases x; rfl) _).symm
end
section
abbrev b_C_isPowered : ByteArray := prog_2_method_2_code
def y_C_isPowered : MethodName := ⟨R_C, "isPowered", "()Z"⟩
def w_C_isPowered : List Cond := .code y_C_isPowered b_C_isPowered 1 (some (.boolean)) :: gw
abbrev b_C_read : ByteArray := prog_2_method_6_code
def y_C_read : MethodName := ⟨R_C, "read", "(II)I"⟩
def w_C_read : List Cond := .code y_C_read b_C_read 3 (some (.int)) :: gw
abbrev b_C_wearAt : ByteArray := prog_2_method_8_code
def y_C_wearAt : MethodName := ⟨R_C, "wearAt", "(I)I"⟩
def w_C_wearAt : List Cond := .code y_C_wearAt b_C_wearAt 2 (some (.int)) :: gw
abbrev b_C_hasFailed : ByteArray := prog_2_method_10_code
def y_C_hasFailed : MethodName := ⟨R_C, "hasFailed", "(I)Z"⟩
def w_C_hasFailed : List Cond := .code y_C_hasFailed b_C_hasFailed 2 (some (.boolean)) :: gw
abbrev b_C_turnOff : ByteArray := prog_2_method_3_code
def y_C_turnOff : MethodName := ⟨R_C, "turnOff", "()V"⟩
def w_C_turnOff : List Cond := .code y_C_turnOff b_C_turnOff 1 none :: gw
abbrev b_C_turnOn : ByteArray := prog_2_method_4_code
def y_C_turnOn : MethodName := ⟨R_C, "turnOn", "()V"⟩
def w_C_turnOn : List Cond := .code y_C_turnOn b_C_turnOn 1 none :: gw
abbrev b_C_tellCut : ByteArray := prog_2_method_5_code
def y_C_tellCut : MethodName := ⟨R_C, "tellCut", "(I)V"⟩
def w_C_tellCut : List Cond := .code y_C_tellCut b_C_tellCut 2 none :: gw
abbrev b_C_flip : ByteArray := prog_2_method_7_code
def y_C_flip : MethodName := ⟨R_C, "flip", "(III)V"⟩
def w_C_flip : List Cond := .code y_C_flip b_C_flip 4 none :: gw
abbrev b_C_markFailed : ByteArray := prog_2_method_9_code
def y_C_markFailed : MethodName := ⟨R_C, "markFailed", "(I)V"⟩
def w_C_markFailed : List Cond := .code y_C_markFailed b_C_markFailed 2 none :: gw
abbrev b_C_mayStep : ByteArray := prog_2_method_13_code
def y_C_mayStep : MethodName := ⟨R_C, "mayStep", "()Z"⟩
def w_C_mayStep : List Cond := .code y_C_mayStep b_C_mayStep 1 (some (.boolean)) :: gw
abbrev b_C_writePage : ByteArray := prog_2_method_11_code
def y_C_writePage : MethodName := ⟨R_C, "writePage", "(I[I)Z"⟩
def w_C_writePage : List Cond := .code y_C_writePage b_C_writePage 4 (some (.boolean)) :: gw
abbrev b_C_eraseBlock : ByteArray := prog_2_method_12_code
def y_C_eraseBlock : MethodName := ⟨R_C, "eraseBlock", "(I)Z"⟩
def w_C_eraseBlock : List Cond := .code y_C_eraseBlock b_C_eraseBlock 4 (some (.boolean)) :: gw
abbrev b_C_isFree : ByteArray := prog_2_method_14_code
def y_C_isFree : MethodName := ⟨R_C, "isFree", "(I)Z"⟩
def w_C_isFree : List Cond := .code y_C_isFree b_C_isFree 4 (some (.boolean)) :: gw
abbrev b_R_sumOf : ByteArray := prog_1_method_29_code
def y_R_sumOf : MethodName := ⟨R_R, "sumOf", "([III)I"⟩
def w_R_sumOf : List Cond := .code y_R_sumOf b_R_sumOf 5 (some (.int)) :: gw
theorem t_37 : (.fieldLink R_C 22 R_C "powered" "Z" : Cond) ∈ gw := gw_in (tb_1 (List.mem_of_getElem? (i := 37) rfl)) (by first | rfl | decide +kernel)
theorem t_34 : (.fieldLink R_C 9 R_C "words" "[I" : Cond) ∈ gw := gw_in (tb_1 (List.mem_of_getElem? (i := 34) rfl)) (by first | rfl | decide +kernel)
theorem t_35 : (.fieldLink R_C 15 R_C "wear" "[I" : Cond) ∈ gw := gw_in (tb_1 (List.mem_of_getElem? (i := 35) rfl)) (by first | rfl | decide +kernel)
theorem t_36 : (.fieldLink R_C 18 R_C "failed" "[Z" : Cond) ∈ gw := gw_in (tb_1 (List.mem_of_getElem? (i := 36) rfl)) (by first | rfl | decide +kernel)
theorem t_38 : (.fieldLink R_C 26 R_C "stepsToCut" "I" : Cond) ∈ gw := gw_in (tb_1 (List.mem_of_getElem? (i := 38) rfl)) (by first | rfl | decide +kernel)
theorem t_432 : (.methodLink R_C 30 y_C_mayStep : Cond) ∈ gw := gw_in (tb_2 (List.mem_of_getElem? (i := 192) rfl)) (by first | rfl | decide +kernel)
theorem t_435 : (.code y_C_mayStep b_C_mayStep 1 (some (.boolean)) : Cond) ∈ gw := gw_in (tb_2 (List.mem_of_getElem? (i := 195) rfl)) (by first | rfl | decide +kernel)
theorem t_434 : (.instanceMethod y_C_mayStep : Cond) ∈ gw := gw_in (tb_2 (List.mem_of_getElem? (i := 194) rfl)) (by first | rfl | decide +kernel)
theorem t_3 : (.initialized R_C : Cond) ∈ gw := gw_in (tb_1 (List.mem_of_getElem? (i := 3) rfl)) (by first | rfl | decide +kernel)
theorem t_172 : (.constant R_R 219 40503 : Cond) ∈ gw := gw_in (tb_1 (List.mem_of_getElem? (i := 172) rfl)) (by first | rfl | decide +kernel)
theorem s_13 : (.selects R_C y_C_mayStep y_C_mayStep : Cond) ∈ gw := gw_in (tb_s (q := (⟨"WeighRecorder$Chip", "mayStep", "()Z"⟩, _)) (List.mem_of_getElem? (i := 13) rfl)) (by first | rfl | decide +kernel)
theorem d_C_isPowered_0 : decode b_C_isPowered 0 = .ok (.aload_n 0, 1) := by decide +kernel
theorem d_C_isPowered_1 : decode b_C_isPowered 1 = .ok (.getfield 22, 3) := by decide +kernel
theorem d_C_isPowered_4 : decode b_C_isPowered 4 = .ok (.ireturn, 1) := by decide +kernel
theorem d_C_read_0 : decode b_C_read 0 = .ok (.aload_n 0, 1) := by decide +kernel
theorem d_C_read_1 : decode b_C_read 1 = .ok (.getfield 9, 3) := by decide +kernel
theorem d_C_read_4 : decode b_C_read 4 = .ok (.iload_n 1, 1) := by decide +kernel
theorem d_C_read_5 : decode b_C_read 5 = .ok (.bipush 16, 2) := by decide +kernel
theorem d_C_read_7 : decode b_C_read 7 = .ok (.imul, 1) := by decide +kernel
theorem d_C_read_8 : decode b_C_read 8 = .ok (.iload_n 2, 1) := by decide +kernel
theorem d_C_read_9 : decode b_C_read 9 = .ok (.iadd, 1) := by decide +kernel
theorem d_C_read_10 : decode b_C_read 10 = .ok (.iaload, 1) := by decide +kernel
theorem d_C_read_11 : decode b_C_read 11 = .ok (.ireturn, 1) := by decide +kernel
theorem d_C_wearAt_0 : decode b_C_wearAt 0 = .ok (.aload_n 0, 1) := by decide +kernel
theorem d_C_wearAt_1 : decode b_C_wearAt 1 = .ok (.getfield 15, 3) := by decide +kernel
theorem d_C_wearAt_4 : decode b_C_wearAt 4 = .ok (.iload_n 1, 1) := by decide +kernel
theorem d_C_wearAt_5 : decode b_C_wearAt 5 = .ok (.iaload, 1) := by decide +kernel
theorem d_C_wearAt_6 : decode b_C_wearAt 6 = .ok (.ireturn, 1) := by decide +kernel
theorem d_C_hasFailed_0 : decode b_C_hasFailed 0 = .ok (.aload_n 0, 1) := by decide +kernel
theorem d_C_hasFailed_1 : decode b_C_hasFailed 1 = .ok (.getfield 18, 3) := by decide +kernel
theorem d_C_hasFailed_4 : decode b_C_hasFailed 4 = .ok (.iload_n 1, 1) := by decide +kernel
theorem d_C_hasFailed_5 : decode b_C_hasFailed 5 = .ok (.baload, 1) := by decide +kernel
theorem d_C_hasFailed_6 : decode b_C_hasFailed 6 = .ok (.ireturn, 1) := by decide +kernel
theorem d_C_turnOff_0 : decode b_C_turnOff 0 = .ok (.aload_n 0, 1) := by decide +kernel
theorem d_C_turnOff_1 : decode b_C_turnOff 1 = .ok (.iconst 0, 1) := by decide +kernel
theorem d_C_turnOff_2 : decode b_C_turnOff 2 = .ok (.putfield 22, 3) := by decide +kernel
theorem d_C_turnOff_5 : decode b_C_turnOff 5 = .ok (.aload_n 0, 1) := by decide +kernel
theorem d_C_turnOff_6 : decode b_C_turnOff 6 = .ok (.iconst (-1), 1) := by decide +kernel
theorem d_C_turnOff_7 : decode b_C_turnOff 7 = .ok (.putfield 26, 3) := by decide +kernel
theorem d_C_turnOff_10 : decode b_C_turnOff 10 = .ok (.return_, 1) := by decide +kernel
theorem d_C_turnOn_0 : decode b_C_turnOn 0 = .ok (.aload_n 0, 1) := by decide +kernel
theorem d_C_turnOn_1 : decode b_C_turnOn 1 = .ok (.iconst 1, 1) := by decide +kernel
theorem d_C_turnOn_2 : decode b_C_turnOn 2 = .ok (.putfield 22, 3) := by decide +kernel
theorem d_C_turnOn_5 : decode b_C_turnOn 5 = .ok (.return_, 1) := by decide +kernel
theorem d_C_tellCut_0 : decode b_C_tellCut 0 = .ok (.aload_n 0, 1) := by decide +kernel
theorem d_C_tellCut_1 : decode b_C_tellCut 1 = .ok (.iload_n 1, 1) := by decide +kernel
theorem d_C_tellCut_2 : decode b_C_tellCut 2 = .ok (.putfield 26, 3) := by decide +kernel
theorem d_C_tellCut_5 : decode b_C_tellCut 5 = .ok (.return_, 1) := by decide +kernel
theorem d_C_flip_0 : decode b_C_flip 0 = .ok (.aload_n 0, 1) := by decide +kernel
theorem d_C_flip_1 : decode b_C_flip 1 = .ok (.getfield 9, 3) := by decide +kernel
theorem d_C_flip_4 : decode b_C_flip 4 = .ok (.iload_n 1, 1) := by decide +kernel
theorem d_C_flip_5 : decode b_C_flip 5 = .ok (.bipush 16, 2) := by decide +kernel
theorem d_C_flip_7 : decode b_C_flip 7 = .ok (.imul, 1) := by decide +kernel
theorem d_C_flip_8 : decode b_C_flip 8 = .ok (.iload_n 2, 1) := by decide +kernel
theorem d_C_flip_9 : decode b_C_flip 9 = .ok (.iadd, 1) := by decide +kernel
theorem d_C_flip_10 : decode b_C_flip 10 = .ok (.dup2, 1) := by decide +kernel
theorem d_C_flip_11 : decode b_C_flip 11 = .ok (.iaload, 1) := by decide +kernel
theorem d_C_flip_12 : decode b_C_flip 12 = .ok (.iload_n 3, 1) := by decide +kernel
theorem d_C_flip_13 : decode b_C_flip 13 = .ok (.ixor, 1) := by decide +kernel
theorem d_C_flip_14 : decode b_C_flip 14 = .ok (.iastore, 1) := by decide +kernel
theorem d_C_flip_15 : decode b_C_flip 15 = .ok (.return_, 1) := by decide +kernel
theorem d_C_markFailed_0 : decode b_C_markFailed 0 = .ok (.aload_n 0, 1) := by decide +kernel
theorem d_C_markFailed_1 : decode b_C_markFailed 1 = .ok (.getfield 18, 3) := by decide +kernel
theorem d_C_markFailed_4 : decode b_C_markFailed 4 = .ok (.iload_n 1, 1) := by decide +kernel
theorem d_C_markFailed_5 : decode b_C_markFailed 5 = .ok (.iconst 1, 1) := by decide +kernel
theorem d_C_markFailed_6 : decode b_C_markFailed 6 = .ok (.bastore, 1) := by decide +kernel
theorem d_C_markFailed_7 : decode b_C_markFailed 7 = .ok (.return_, 1) := by decide +kernel
theorem d_C_mayStep_0 : decode b_C_mayStep 0 = .ok (.aload_n 0, 1) := by decide +kernel
theorem d_C_mayStep_1 : decode b_C_mayStep 1 = .ok (.getfield 26, 3) := by decide +kernel
theorem d_C_mayStep_4 : decode b_C_mayStep 4 = .ok (.ifCond .ne (16), 3) := by decide +kernel
theorem d_C_mayStep_7 : decode b_C_mayStep 7 = .ok (.aload_n 0, 1) := by decide +kernel
theorem d_C_mayStep_8 : decode b_C_mayStep 8 = .ok (.iconst 0, 1) := by decide +kernel
theorem d_C_mayStep_9 : decode b_C_mayStep 9 = .ok (.putfield 22, 3) := by decide +kernel
theorem d_C_mayStep_12 : decode b_C_mayStep 12 = .ok (.aload_n 0, 1) := by decide +kernel
theorem d_C_mayStep_13 : decode b_C_mayStep 13 = .ok (.iconst (-1), 1) := by decide +kernel
theorem d_C_mayStep_14 : decode b_C_mayStep 14 = .ok (.putfield 26, 3) := by decide +kernel
theorem d_C_mayStep_17 : decode b_C_mayStep 17 = .ok (.goto (20), 3) := by decide +kernel
theorem d_C_mayStep_20 : decode b_C_mayStep 20 = .ok (.aload_n 0, 1) := by decide +kernel
theorem d_C_mayStep_21 : decode b_C_mayStep 21 = .ok (.getfield 26, 3) := by decide +kernel
theorem d_C_mayStep_24 : decode b_C_mayStep 24 = .ok (.ifCond .le (13), 3) := by decide +kernel
theorem d_C_mayStep_27 : decode b_C_mayStep 27 = .ok (.aload_n 0, 1) := by decide +kernel
theorem d_C_mayStep_28 : decode b_C_mayStep 28 = .ok (.dup, 1) := by decide +kernel
theorem d_C_mayStep_29 : decode b_C_mayStep 29 = .ok (.getfield 26, 3) := by decide +kernel
theorem d_C_mayStep_32 : decode b_C_mayStep 32 = .ok (.iconst 1, 1) := by decide +kernel
theorem d_C_mayStep_33 : decode b_C_mayStep 33 = .ok (.isub, 1) := by decide +kernel
theorem d_C_mayStep_34 : decode b_C_mayStep 34 = .ok (.putfield 26, 3) := by decide +kernel
theorem d_C_mayStep_37 : decode b_C_mayStep 37 = .ok (.aload_n 0, 1) := by decide +kernel
theorem d_C_mayStep_38 : decode b_C_mayStep 38 = .ok (.getfield 22, 3) := by decide +kernel
theorem d_C_mayStep_41 : decode b_C_mayStep 41 = .ok (.ireturn, 1) := by decide +kernel
theorem d_C_writePage_0 : decode b_C_writePage 0 = .ok (.iconst 0, 1) := by decide +kernel
theorem d_C_writePage_1 : decode b_C_writePage 1 = .ok (.istore_n 3, 1) := by decide +kernel
theorem d_C_writePage_2 : decode b_C_writePage 2 = .ok (.iload_n 3, 1) := by decide +kernel
theorem d_C_writePage_3 : decode b_C_writePage 3 = .ok (.bipush 16, 2) := by decide +kernel
theorem d_C_writePage_5 : decode b_C_writePage 5 = .ok (.if_icmp .ge (32), 3) := by decide +kernel
theorem d_C_writePage_8 : decode b_C_writePage 8 = .ok (.aload_n 0, 1) := by decide +kernel
theorem d_C_writePage_9 : decode b_C_writePage 9 = .ok (.invokevirtual 30, 3) := by decide +kernel
theorem d_C_writePage_12 : decode b_C_writePage 12 = .ok (.ifCond .ne (5), 3) := by decide +kernel
theorem d_C_writePage_15 : decode b_C_writePage 15 = .ok (.iconst 0, 1) := by decide +kernel
theorem d_C_writePage_16 : decode b_C_writePage 16 = .ok (.ireturn, 1) := by decide +kernel
theorem d_C_writePage_17 : decode b_C_writePage 17 = .ok (.aload_n 0, 1) := by decide +kernel
theorem d_C_writePage_18 : decode b_C_writePage 18 = .ok (.getfield 9, 3) := by decide +kernel
theorem d_C_writePage_21 : decode b_C_writePage 21 = .ok (.iload_n 1, 1) := by decide +kernel
theorem d_C_writePage_22 : decode b_C_writePage 22 = .ok (.bipush 16, 2) := by decide +kernel
theorem d_C_writePage_24 : decode b_C_writePage 24 = .ok (.imul, 1) := by decide +kernel
theorem d_C_writePage_25 : decode b_C_writePage 25 = .ok (.iload_n 3, 1) := by decide +kernel
theorem d_C_writePage_26 : decode b_C_writePage 26 = .ok (.iadd, 1) := by decide +kernel
theorem d_C_writePage_27 : decode b_C_writePage 27 = .ok (.aload_n 2, 1) := by decide +kernel
theorem d_C_writePage_28 : decode b_C_writePage 28 = .ok (.iload_n 3, 1) := by decide +kernel
theorem d_C_writePage_29 : decode b_C_writePage 29 = .ok (.iaload, 1) := by decide +kernel
theorem d_C_writePage_30 : decode b_C_writePage 30 = .ok (.iastore, 1) := by decide +kernel
theorem d_C_writePage_31 : decode b_C_writePage 31 = .ok (.iinc 3 1, 3) := by decide +kernel
theorem d_C_writePage_34 : decode b_C_writePage 34 = .ok (.goto (-32), 3) := by decide +kernel
theorem d_C_writePage_37 : decode b_C_writePage 37 = .ok (.iconst 1, 1) := by decide +kernel
theorem d_C_writePage_38 : decode b_C_writePage 38 = .ok (.ireturn, 1) := by decide +kernel
theorem d_C_eraseBlock_0 : decode b_C_eraseBlock 0 = .ok (.aload_n 0, 1) := by decide +kernel
theorem d_C_eraseBlock_1 : decode b_C_eraseBlock 1 = .ok (.invokevirtual 30, 3) := by decide +kernel
theorem d_C_eraseBlock_4 : decode b_C_eraseBlock 4 = .ok (.ifCond .ne (5), 3) := by decide +kernel
theorem d_C_eraseBlock_7 : decode b_C_eraseBlock 7 = .ok (.iconst 0, 1) := by decide +kernel
theorem d_C_eraseBlock_8 : decode b_C_eraseBlock 8 = .ok (.ireturn, 1) := by decide +kernel
theorem d_C_eraseBlock_9 : decode b_C_eraseBlock 9 = .ok (.iload_n 1, 1) := by decide +kernel
theorem d_C_eraseBlock_10 : decode b_C_eraseBlock 10 = .ok (.iconst 4, 1) := by decide +kernel
theorem d_C_eraseBlock_11 : decode b_C_eraseBlock 11 = .ok (.imul, 1) := by decide +kernel
theorem d_C_eraseBlock_12 : decode b_C_eraseBlock 12 = .ok (.bipush 16, 2) := by decide +kernel
theorem d_C_eraseBlock_14 : decode b_C_eraseBlock 14 = .ok (.imul, 1) := by decide +kernel
theorem d_C_eraseBlock_15 : decode b_C_eraseBlock 15 = .ok (.istore_n 2, 1) := by decide +kernel
theorem d_C_eraseBlock_16 : decode b_C_eraseBlock 16 = .ok (.iconst 0, 1) := by decide +kernel
theorem d_C_eraseBlock_17 : decode b_C_eraseBlock 17 = .ok (.istore_n 3, 1) := by decide +kernel
theorem d_C_eraseBlock_18 : decode b_C_eraseBlock 18 = .ok (.iload_n 3, 1) := by decide +kernel
theorem d_C_eraseBlock_19 : decode b_C_eraseBlock 19 = .ok (.bipush 64, 2) := by decide +kernel
theorem d_C_eraseBlock_21 : decode b_C_eraseBlock 21 = .ok (.if_icmp .ge (18), 3) := by decide +kernel
theorem d_C_eraseBlock_24 : decode b_C_eraseBlock 24 = .ok (.aload_n 0, 1) := by decide +kernel
theorem d_C_eraseBlock_25 : decode b_C_eraseBlock 25 = .ok (.getfield 9, 3) := by decide +kernel
theorem d_C_eraseBlock_28 : decode b_C_eraseBlock 28 = .ok (.iload_n 2, 1) := by decide +kernel
theorem d_C_eraseBlock_29 : decode b_C_eraseBlock 29 = .ok (.iload_n 3, 1) := by decide +kernel
theorem d_C_eraseBlock_30 : decode b_C_eraseBlock 30 = .ok (.iadd, 1) := by decide +kernel
theorem d_C_eraseBlock_31 : decode b_C_eraseBlock 31 = .ok (.iconst (-1), 1) := by decide +kernel
theorem d_C_eraseBlock_32 : decode b_C_eraseBlock 32 = .ok (.iastore, 1) := by decide +kernel
theorem d_C_eraseBlock_33 : decode b_C_eraseBlock 33 = .ok (.iinc 3 1, 3) := by decide +kernel
theorem d_C_eraseBlock_36 : decode b_C_eraseBlock 36 = .ok (.goto (-18), 3) := by decide +kernel
theorem d_C_eraseBlock_39 : decode b_C_eraseBlock 39 = .ok (.aload_n 0, 1) := by decide +kernel
theorem d_C_eraseBlock_40 : decode b_C_eraseBlock 40 = .ok (.getfield 15, 3) := by decide +kernel
theorem d_C_eraseBlock_43 : decode b_C_eraseBlock 43 = .ok (.iload_n 1, 1) := by decide +kernel
theorem d_C_eraseBlock_44 : decode b_C_eraseBlock 44 = .ok (.dup2, 1) := by decide +kernel
theorem d_C_eraseBlock_45 : decode b_C_eraseBlock 45 = .ok (.iaload, 1) := by decide +kernel
theorem d_C_eraseBlock_46 : decode b_C_eraseBlock 46 = .ok (.iconst 1, 1) := by decide +kernel
theorem d_C_eraseBlock_47 : decode b_C_eraseBlock 47 = .ok (.iadd, 1) := by decide +kernel
theorem d_C_eraseBlock_48 : decode b_C_eraseBlock 48 = .ok (.iastore, 1) := by decide +kernel
theorem d_C_eraseBlock_49 : decode b_C_eraseBlock 49 = .ok (.iconst 1, 1) := by decide +kernel
theorem d_C_eraseBlock_50 : decode b_C_eraseBlock 50 = .ok (.ireturn, 1) := by decide +kernel
theorem d_C_isFree_0 : decode b_C_isFree 0 = .ok (.iload_n 1, 1) := by decide +kernel
theorem d_C_isFree_1 : decode b_C_isFree 1 = .ok (.bipush 16, 2) := by decide +kernel
theorem d_C_isFree_3 : decode b_C_isFree 3 = .ok (.imul, 1) := by decide +kernel
theorem d_C_isFree_4 : decode b_C_isFree 4 = .ok (.istore_n 2, 1) := by decide +kernel
theorem d_C_isFree_5 : decode b_C_isFree 5 = .ok (.iload_n 2, 1) := by decide +kernel
theorem d_C_isFree_6 : decode b_C_isFree 6 = .ok (.istore_n 3, 1) := by decide +kernel
theorem d_C_isFree_7 : decode b_C_isFree 7 = .ok (.iload_n 3, 1) := by decide +kernel
theorem d_C_isFree_8 : decode b_C_isFree 8 = .ok (.iload_n 2, 1) := by decide +kernel
theorem d_C_isFree_9 : decode b_C_isFree 9 = .ok (.bipush 16, 2) := by decide +kernel
theorem d_C_isFree_11 : decode b_C_isFree 11 = .ok (.iadd, 1) := by decide +kernel
theorem d_C_isFree_12 : decode b_C_isFree 12 = .ok (.if_icmp .ge (21), 3) := by decide +kernel
theorem d_C_isFree_15 : decode b_C_isFree 15 = .ok (.aload_n 0, 1) := by decide +kernel
theorem d_C_isFree_16 : decode b_C_isFree 16 = .ok (.getfield 9, 3) := by decide +kernel
theorem d_C_isFree_19 : decode b_C_isFree 19 = .ok (.iload_n 3, 1) := by decide +kernel
theorem d_C_isFree_20 : decode b_C_isFree 20 = .ok (.iaload, 1) := by decide +kernel
theorem d_C_isFree_21 : decode b_C_isFree 21 = .ok (.iconst (-1), 1) := by decide +kernel
theorem d_C_isFree_22 : decode b_C_isFree 22 = .ok (.if_icmp .eq (5), 3) := by decide +kernel
theorem d_C_isFree_25 : decode b_C_isFree 25 = .ok (.iconst 0, 1) := by decide +kernel
theorem d_C_isFree_26 : decode b_C_isFree 26 = .ok (.ireturn, 1) := by decide +kernel
theorem d_C_isFree_27 : decode b_C_isFree 27 = .ok (.iinc 3 1, 3) := by decide +kernel
theorem d_C_isFree_30 : decode b_C_isFree 30 = .ok (.goto (-23), 3) := by decide +kernel
theorem d_C_isFree_33 : decode b_C_isFree 33 = .ok (.iconst 1, 1) := by decide +kernel
theorem d_C_isFree_34 : decode b_C_isFree 34 = .ok (.ireturn, 1) := by decide +kernel
theorem d_R_sumOf_0 : decode b_R_sumOf 0 = .ok (.sipush 7989, 3) := by decide +kernel
theorem d_R_sumOf_3 : decode b_R_sumOf 3 = .ok (.istore_n 3, 1) := by decide +kernel
theorem d_R_sumOf_4 : decode b_R_sumOf 4 = .ok (.iload_n 1, 1) := by decide +kernel
theorem d_R_sumOf_5 : decode b_R_sumOf 5 = .ok (.istore 4, 2) := by decide +kernel
theorem d_R_sumOf_7 : decode b_R_sumOf 7 = .ok (.iload 4, 2) := by decide +kernel
theorem d_R_sumOf_9 : decode b_R_sumOf 9 = .ok (.iload_n 1, 1) := by decide +kernel
theorem d_R_sumOf_10 : decode b_R_sumOf 10 = .ok (.iload_n 2, 1) := by decide +kernel
theorem d_R_sumOf_11 : decode b_R_sumOf 11 = .ok (.iadd, 1) := by decide +kernel
theorem d_R_sumOf_12 : decode b_R_sumOf 12 = .ok (.if_icmp .ge (30), 3) := by decide +kernel
theorem d_R_sumOf_15 : decode b_R_sumOf 15 = .ok (.iload_n 3, 1) := by decide +kernel
theorem d_R_sumOf_16 : decode b_R_sumOf 16 = .ok (.aload_n 0, 1) := by decide +kernel
theorem d_R_sumOf_17 : decode b_R_sumOf 17 = .ok (.iload 4, 2) := by decide +kernel
theorem d_R_sumOf_19 : decode b_R_sumOf 19 = .ok (.iaload, 1) := by decide +kernel
theorem d_R_sumOf_20 : decode b_R_sumOf 20 = .ok (.ixor, 1) := by decide +kernel
theorem d_R_sumOf_21 : decode b_R_sumOf 21 = .ok (.istore_n 3, 1) := by decide +kernel
theorem d_R_sumOf_22 : decode b_R_sumOf 22 = .ok (.iload_n 3, 1) := by decide +kernel
theorem d_R_sumOf_23 : decode b_R_sumOf 23 = .ok (.iconst 5, 1) := by decide +kernel
theorem d_R_sumOf_24 : decode b_R_sumOf 24 = .ok (.ishl, 1) := by decide +kernel
theorem d_R_sumOf_25 : decode b_R_sumOf 25 = .ok (.iload_n 3, 1) := by decide +kernel
theorem d_R_sumOf_26 : decode b_R_sumOf 26 = .ok (.bipush 27, 2) := by decide +kernel
theorem d_R_sumOf_28 : decode b_R_sumOf 28 = .ok (.iushr, 1) := by decide +kernel
theorem d_R_sumOf_29 : decode b_R_sumOf 29 = .ok (.ior, 1) := by decide +kernel
theorem d_R_sumOf_30 : decode b_R_sumOf 30 = .ok (.istore_n 3, 1) := by decide +kernel
theorem d_R_sumOf_31 : decode b_R_sumOf 31 = .ok (.iload_n 3, 1) := by decide +kernel
theorem d_R_sumOf_32 : decode b_R_sumOf 32 = .ok (.ldc 219, 2) := by decide +kernel
theorem d_R_sumOf_34 : decode b_R_sumOf 34 = .ok (.iadd, 1) := by decide +kernel
theorem d_R_sumOf_35 : decode b_R_sumOf 35 = .ok (.istore_n 3, 1) := by decide +kernel
theorem d_R_sumOf_36 : decode b_R_sumOf 36 = .ok (.iinc 4 1, 3) := by decide +kernel
theorem d_R_sumOf_39 : decode b_R_sumOf 39 = .ok (.goto (-32), 3) := by decide +kernel
theorem d_R_sumOf_42 : decode b_R_sumOf 42 = .ok (.iload_n 3, 1) := by decide +kernel
theorem d_R_sumOf_43 : decode b_R_sumOf 43 = .ok (.ireturn, 1) := by decide +kernel
end
section
/-! ranges of a state that any run may come to -/
def B01 (x : Int32) : Prop := x = 0 ∨ x = 1
theorem B01.nar {x : Int32} (h : B01 x) : narrow .boolean (.int x) = .int x := by
  rcases h with rfl | rfl <;> rfl
theorem B01.n0 : B01 (nI 0) := Or.inl rfl
theorem B01.n1 : B01 (nI 1) := Or.inr rfl
theorem B01_upd {f : Nat → Int32} {n k : Nat} {x : Int32} (h : ∀ i, i < n → B01 (f i)) (hx : B01 (vp_nar .boolean x)) : ∀ i, i < n → B01 (upd f k (vp_nar .boolean x) i) := fun i hi => by
  unfold upd
  split
  · exact hx
  · exact h i hi
/-- a page or a block, or none -/
def PG (n : Nat) (x : Int32) : Prop := x = -1 ∨ ∃ p : Nat, p < n ∧ x = nI p
theorem PG.m1 {n : Nat} : PG n (-1) := Or.inl rfl
theorem PG.of {n p : Nat} (h : p < n) : PG n (nI p) := Or.inr ⟨p, h, rfl⟩
theorem PG_upd {f : Nat → Int32} {m n k : Nat} {x : Int32} (h : ∀ i, i < m → PG n (f i)) (hx : PG n x) : ∀ i, i < m → PG n (upd f k x i) := fun i hi => by
  unfold upd
  split
  · exact hx
  · exact h i hi
end
section
set_option maxHeartbeats 4000000 in
set_option maxRecDepth 100000 in
theorem c_C_isPowered (l : Launch) (dC : Nat → ClassId) (dI : Nat → Nat → Nat) (ad cd : Nat → Nat) (w wr fl : Nat → Int32) (pw sc : Int32) (lw rot vb : Nat → Int32) (rec tk : Int32) (live row : Nat → Int32) (cur ser dur wo : Int32) (bts : Nat → Int32) (us : Int32) (act : Nat → Int32) (rd rs : Int32)  (hpw : B01 pw) : Met l y_C_isPowered w_C_isPowered ({ frames := 0, cells := 0, slots := 0, locals := 0 }) (xR (dC, dI) vwCl (xt cd) (xw ad cd w wr fl pw sc lw rot vb rec tk live row cur ser dur wo bts us act rd rs) [.ref (ad 2)]) (vp_Si (fun r => r = pw)) 0 0 (fun _ => False) := by
  refine Met.ofW (cc := b_C_isPowered) (maxL := 1) (ret := (some (.boolean))) (by decide) rfl ?_
  intro P e s m args below meth c0 s₁ B hml hv
  obtain ⟨rfl, hP, hK⟩ := hv
  have hx := B.exec
  have hb := B.bytes
  have hr := B.returns
  have hts := atoms_spec (ws := w_C_isPowered) B.pre
  have hown : s.vm.findClass R_C = some m.cls := findClass_of_methodNamed B.named
  have hlocks := B.notSynchronized
  have hl := lv_entry ([.ref (ad 2)]) (n := 1) (Nat.le_of_ble_eq_true rfl)
  rw [lg_entry_eq]
  generalize (lg_sl ([.ref (ad 2)]) ++ List.replicate (1 - (lg_sl ([.ref (ad 2)])).length) Slot.unset).toArray = ls at hl ⊢
  have hl : lv_has ls 1 [(0, .ref (ad 2))] := hl
  refine lv_aload_n hx hb d_C_isPowered_0 rfl (lv_at hl 0 rfl) ?_
  refine va_get (D := (dC, dI)) (ci := 0) (v := .int pw) (C := R_C) (T := F_C) (N := 5) hx hb hts (fun w h => List.mem_cons_of_mem _ (in_C w h)) hown hK hP 2 rfl rfl 3 (by decide) (hts (.fieldLink R_C 22 R_C "powered" "Z") (List.mem_cons_of_mem _ t_37)) (fun _ h9 => h9) rfl d_C_isPowered_1 ?_
  exact W.zret (v := pw) hx hb hr (hpw.nar) (fun t ht hW => ⟨pw, rfl, by first | rfl | trivial | omega, ht⟩) (fun q hq => by cases hq) d_C_isPowered_4
set_option maxHeartbeats 4000000 in
set_option maxRecDepth 100000 in
theorem c_C_read (l : Launch) (dC : Nat → ClassId) (dI : Nat → Nat → Nat) (ad cd : Nat → Nat) (w wr fl : Nat → Int32) (pw sc : Int32) (lw rot vb : Nat → Int32) (rec tk : Int32) (live row : Nat → Int32) (cur ser dur wo : Int32) (bts : Nat → Int32) (us : Int32) (act : Nat → Int32) (rd rs : Int32) (pa k : Nat) (hp : pa < 32) (hk : k < 16) : Met l y_C_read w_C_read ({ frames := 0, cells := 0, slots := 0, locals := 0 }) (xR (dC, dI) vwCl (xt cd) (xw ad cd w wr fl pw sc lw rot vb rec tk live row cur ser dur wo bts us act rd rs) [.ref (ad 2), .int (nI pa), .int (nI k)]) (vp_Si (fun r => r = w (16 * pa + k))) 0 0 (fun _ => False) := by
  refine Met.ofW (cc := b_C_read) (maxL := 3) (ret := (some (.int))) (by decide) rfl ?_
  intro P e s m args below meth c0 s₁ B hml hv
  obtain ⟨rfl, hP, hK⟩ := hv
  have hx := B.exec
  have hb := B.bytes
  have hr := B.returns
  have hts := atoms_spec (ws := w_C_read) B.pre
  have hown : s.vm.findClass R_C = some m.cls := findClass_of_methodNamed B.named
  have hlocks := B.notSynchronized
  have hl := lv_entry ([.ref (ad 2), .int (nI pa), .int (nI k)]) (n := 3) (Nat.le_of_ble_eq_true rfl)
  rw [lg_entry_eq]
  generalize (lg_sl ([.ref (ad 2), .int (nI pa), .int (nI k)]) ++ List.replicate (3 - (lg_sl ([.ref (ad 2), .int (nI pa), .int (nI k)])).length) Slot.unset).toArray = ls at hl ⊢
  have hl : lv_has ls 3 [(0, .ref (ad 2)), (1, .int (nI pa)), (2, .int (nI k))] := hl
  refine lv_aload_n hx hb d_C_read_0 rfl (lv_at hl 0 rfl) ?_
  refine va_get (D := (dC, dI)) (ci := 0) (v := .ref (ad 8)) (C := R_C) (T := F_C) (N := 5) hx hb hts (fun w h => List.mem_cons_of_mem _ (in_C w h)) hown hK hP 2 rfl rfl 0 (by decide) (hts (.fieldLink R_C 9 R_C "words" "[I") (List.mem_cons_of_mem _ t_34)) (fun _ h9 => h9) rfl d_C_read_1 ?_
  refine lv_iload_n hx hb d_C_read_4 rfl (lv_at hl 1 rfl) ?_
  refine lv_bipush (v := nI 16) hx hb d_C_read_5 (by decide) ?_
  refine lv_imul hx hb d_C_read_7 ?_
  refine tp_i (y := nI (pa * 16)) (pk_mul _ _) ?_
  refine lv_iload_n hx hb d_C_read_8 rfl (lv_at hl 2 rfl) ?_
  refine lv_iadd hx hb d_C_read_9 ?_
  refine tp_i (y := nI ((pa * 16) + k)) (nI_add _ _) ?_
  refine va_iald hx hb hK hP 8 3 rfl rfl (vp_in_nI (by omega) (by decide)) d_C_read_10 ?_
  refine tp_i (y := w ((pa * 16) + k)) (by rw [nI_clamp (by omega)]) ?_
  exact W.iret (v := w ((pa * 16) + k)) hx hb hr (fun t ht hW => ⟨w ((pa * 16) + k), rfl, by rw [Nat.mul_comm 16 pa], ht⟩) (fun q hq => by cases hq) d_C_read_11
set_option maxHeartbeats 4000000 in
set_option maxRecDepth 100000 in
theorem c_C_wearAt (l : Launch) (dC : Nat → ClassId) (dI : Nat → Nat → Nat) (ad cd : Nat → Nat) (w wr fl : Nat → Int32) (pw sc : Int32) (lw rot vb : Nat → Int32) (rec tk : Int32) (live row : Nat → Int32) (cur ser dur wo : Int32) (bts : Nat → Int32) (us : Int32) (act : Nat → Int32) (rd rs : Int32) (b : Nat) (hp : b < 8) : Met l y_C_wearAt w_C_wearAt ({ frames := 0, cells := 0, slots := 0, locals := 0 }) (xR (dC, dI) vwCl (xt cd) (xw ad cd w wr fl pw sc lw rot vb rec tk live row cur ser dur wo bts us act rd rs) [.ref (ad 2), .int (nI b)]) (vp_Si (fun r => r = wr b)) 0 0 (fun _ => False) := by
  refine Met.ofW (cc := b_C_wearAt) (maxL := 2) (ret := (some (.int))) (by decide) rfl ?_
  intro P e s m args below meth c0 s₁ B hml hv
  obtain ⟨rfl, hP, hK⟩ := hv
  have hx := B.exec
  have hb := B.bytes
  have hr := B.returns
  have hts := atoms_spec (ws := w_C_wearAt) B.pre
  have hown : s.vm.findClass R_C = some m.cls := findClass_of_methodNamed B.named
  have hlocks := B.notSynchronized
  have hl := lv_entry ([.ref (ad 2), .int (nI b)]) (n := 2) (Nat.le_of_ble_eq_true rfl)
  rw [lg_entry_eq]
  generalize (lg_sl ([.ref (ad 2), .int (nI b)]) ++ List.replicate (2 - (lg_sl ([.ref (ad 2), .int (nI b)])).length) Slot.unset).toArray = ls at hl ⊢
  have hl : lv_has ls 2 [(0, .ref (ad 2)), (1, .int (nI b))] := hl
  refine lv_aload_n hx hb d_C_wearAt_0 rfl (lv_at hl 0 rfl) ?_
  refine va_get (D := (dC, dI)) (ci := 0) (v := .ref (ad 9)) (C := R_C) (T := F_C) (N := 5) hx hb hts (fun w h => List.mem_cons_of_mem _ (in_C w h)) hown hK hP 2 rfl rfl 1 (by decide) (hts (.fieldLink R_C 15 R_C "wear" "[I") (List.mem_cons_of_mem _ t_35)) (fun _ h9 => h9) rfl d_C_wearAt_1 ?_
  refine lv_iload_n hx hb d_C_wearAt_4 rfl (lv_at hl 1 rfl) ?_
  refine va_iald hx hb hK hP 9 4 rfl rfl (vp_in_nI (by omega) (by decide)) d_C_wearAt_5 ?_
  refine tp_i (y := wr b) (by rw [nI_clamp (by omega)]) ?_
  exact W.iret (v := wr b) hx hb hr (fun t ht hW => ⟨wr b, rfl, by first | rfl | trivial | omega, ht⟩) (fun q hq => by cases hq) d_C_wearAt_6
set_option maxHeartbeats 4000000 in
set_option maxRecDepth 100000 in
theorem c_C_hasFailed (l : Launch) (dC : Nat → ClassId) (dI : Nat → Nat → Nat) (ad cd : Nat → Nat) (w wr fl : Nat → Int32) (pw sc : Int32) (lw rot vb : Nat → Int32) (rec tk : Int32) (live row : Nat → Int32) (cur ser dur wo : Int32) (bts : Nat → Int32) (us : Int32) (act : Nat → Int32) (rd rs : Int32) (b : Nat) (hp : b < 8) (hfl : ∀ i, i < 8 → B01 (fl i)) : Met l y_C_hasFailed w_C_hasFailed ({ frames := 0, cells := 0, slots := 0, locals := 0 }) (xR (dC, dI) vwCl (xt cd) (xw ad cd w wr fl pw sc lw rot vb rec tk live row cur ser dur wo bts us act rd rs) [.ref (ad 2), .int (nI b)]) (vp_Si (fun r => r = fl b)) 0 0 (fun _ => False) := by
  refine Met.ofW (cc := b_C_hasFailed) (maxL := 2) (ret := (some (.boolean))) (by decide) rfl ?_
  intro P e s m args below meth c0 s₁ B hml hv
  obtain ⟨rfl, hP, hK⟩ := hv
  have hx := B.exec
  have hb := B.bytes
  have hr := B.returns
  have hts := atoms_spec (ws := w_C_hasFailed) B.pre
  have hown : s.vm.findClass R_C = some m.cls := findClass_of_methodNamed B.named
  have hlocks := B.notSynchronized
  have hl := lv_entry ([.ref (ad 2), .int (nI b)]) (n := 2) (Nat.le_of_ble_eq_true rfl)
  rw [lg_entry_eq]
  generalize (lg_sl ([.ref (ad 2), .int (nI b)]) ++ List.replicate (2 - (lg_sl ([.ref (ad 2), .int (nI b)])).length) Slot.unset).toArray = ls at hl ⊢
  have hl : lv_has ls 2 [(0, .ref (ad 2)), (1, .int (nI b))] := hl
  refine lv_aload_n hx hb d_C_hasFailed_0 rfl (lv_at hl 0 rfl) ?_
  refine va_get (D := (dC, dI)) (ci := 0) (v := .ref (ad 10)) (C := R_C) (T := F_C) (N := 5) hx hb hts (fun w h => List.mem_cons_of_mem _ (in_C w h)) hown hK hP 2 rfl rfl 2 (by decide) (hts (.fieldLink R_C 18 R_C "failed" "[Z") (List.mem_cons_of_mem _ t_36)) (fun _ h9 => h9) rfl d_C_hasFailed_1 ?_
  refine lv_iload_n hx hb d_C_hasFailed_4 rfl (lv_at hl 1 rfl) ?_
  refine va_zald hx hb hK hP 10 5 rfl rfl (vp_in_nI (by omega) (by decide)) d_C_hasFailed_5 ?_
  refine tp_i (y := fl b) (by rw [nI_clamp (by omega)]) ?_
  exact W.zret (v := fl b) hx hb hr ((hfl b hp).nar) (fun t ht hW => ⟨fl b, rfl, by first | rfl | trivial | omega, ht⟩) (fun q hq => by cases hq) d_C_hasFailed_6
set_option maxHeartbeats 4000000 in
set_option maxRecDepth 100000 in
theorem c_C_turnOff (l : Launch) (dC : Nat → ClassId) (dI : Nat → Nat → Nat) (ad cd : Nat → Nat) (sz : Nat) (w wr fl : Nat → Int32) (pw sc : Int32) (lw rot vb : Nat → Int32) (rec tk : Int32) (live row : Nat → Int32) (cur ser dur wo : Int32) (bts : Nat → Int32) (us : Int32) (act : Nat → Int32) (rd rs : Int32)  : Met l y_C_turnOff w_C_turnOff ({ frames := 0, cells := 0, slots := 0, locals := 0 }) (xP (dC, dI) vwCl (xt cd) (xw ad cd w wr fl pw sc lw rot vb rec tk live row cur ser dur wo bts us act rd rs) sz [.ref (ad 2)]) (va_Qv (fun (u : Unit) => True) (fun (u : Unit) (t : State) => xB (dC, dI) vwCl (xt cd) (xA 15 ad sz) (xw ad cd w wr fl (nI 0) (-1) lw rot vb rec tk live row cur ser dur wo bts us act rd rs) t) (xA 15 ad sz)) 0 0 (xA 15 ad sz) := by
  refine Met.ofW (cc := b_C_turnOff) (maxL := 1) (ret := none) (by decide) rfl ?_
  intro P e s m args below meth c0 s₁ B hml hv
  obtain ⟨rfl, hsz, hP, hK, hD0⟩ := hv
  have hx := B.exec
  have hb := B.bytes
  have hr := B.returns
  have hts := atoms_spec (ws := w_C_turnOff) B.pre
  have hown : s.vm.findClass R_C = some m.cls := findClass_of_methodNamed B.named
  have hlocks := B.notSynchronized
  subst hsz
  have hD := xw_D (sz := s.heap.size) hD0
  have hS : va_S (xA 15 ad s.heap.size) s.heap s.heap [] := va_S.rf
  have hA : ∀ q : Nat, s.heap.size ≤ q → (xA 15 ad s.heap.size) q := fun q h => Or.inr h
  have hl := lv_entry ([.ref (ad 2)]) (n := 1) (Nat.le_of_ble_eq_true rfl)
  rw [lg_entry_eq]
  generalize (lg_sl ([.ref (ad 2)]) ++ List.replicate (1 - (lg_sl ([.ref (ad 2)])).length) Slot.unset).toArray = ls at hl ⊢
  have hl : lv_has ls 1 [(0, .ref (ad 2))] := hl
  refine lv_aload_n hx hb d_C_turnOff_0 rfl (lv_at hl 0 rfl) ?_
  refine lv_iconst (v := nI 0) hx hb d_C_turnOff_1 (by decide) ?_
  refine va_put (D := (dC, dI)) (ci := 0) (v := .int (nI 0)) (ty := .boolean) (C := R_C) (T := F_C) (N := 5) hx hb hts (fun w h => List.mem_cons_of_mem _ (in_C w h)) t_C ok_C nm_C hown hK hP hD hS 2 rfl rfl 3 (by decide) (hts (.fieldLink R_C 22 R_C "powered" "Z") (List.mem_cons_of_mem _ t_37)) (fun _ h9 => h9) rfl (by decide +kernel) (by first | rfl | decide | assumption) rfl (Nat.le_of_ble_eq_true rfl) d_C_turnOff_2 (fun H locs hP hD hS => ?_)
  have hP : va_P (dC, dI) vwCl (xw ad cd w wr fl (nI 0) sc lw rot vb rec tk live row cur ser dur wo bts us act rd rs) H := hP
  have hD : va_D (xA 15 ad s.heap.size) (xw ad cd w wr fl (nI 0) sc lw rot vb rec tk live row cur ser dur wo bts us act rd rs) := hD
  refine lv_aload_n hx hb d_C_turnOff_5 rfl (lv_at hl 0 rfl) ?_
  refine lv_iconst (v := (-1)) hx hb d_C_turnOff_6 (by decide) ?_
  refine va_put (D := (dC, dI)) (ci := 0) (v := .int (-1)) (ty := .int) (C := R_C) (T := F_C) (N := 5) hx hb hts (fun w h => List.mem_cons_of_mem _ (in_C w h)) t_C ok_C nm_C hown hK hP hD hS 2 rfl rfl 4 (by decide) (hts (.fieldLink R_C 26 R_C "stepsToCut" "I") (List.mem_cons_of_mem _ t_38)) (fun _ h9 => h9) rfl (by decide +kernel) rfl rfl (Nat.le_of_ble_eq_true rfl) d_C_turnOff_7 (fun H locs hP hD hS => ?_)
  have hP : va_P (dC, dI) vwCl (xw ad cd w wr fl (nI 0) (-1) lw rot vb rec tk live row cur ser dur wo bts us act rd rs) H := hP
  have hD : va_D (xA 15 ad s.heap.size) (xw ad cd w wr fl (nI 0) (-1) lw rot vb rec tk live row cur ser dur wo bts us act rd rs) := hD
  exact W.vret hx hb hr (fun t ht hW => ⟨⟨(), rfl, by first | rfl | trivial | omega, ⟨by rw [ht]; exact hP, va_K.moved hW.alike hK, hD⟩⟩, hS.F ht⟩) hS.2.2 d_C_turnOff_10
set_option maxHeartbeats 4000000 in
set_option maxRecDepth 100000 in
theorem c_C_turnOn (l : Launch) (dC : Nat → ClassId) (dI : Nat → Nat → Nat) (ad cd : Nat → Nat) (sz : Nat) (w wr fl : Nat → Int32) (pw sc : Int32) (lw rot vb : Nat → Int32) (rec tk : Int32) (live row : Nat → Int32) (cur ser dur wo : Int32) (bts : Nat → Int32) (us : Int32) (act : Nat → Int32) (rd rs : Int32)  : Met l y_C_turnOn w_C_turnOn ({ frames := 0, cells := 0, slots := 0, locals := 0 }) (xP (dC, dI) vwCl (xt cd) (xw ad cd w wr fl pw sc lw rot vb rec tk live row cur ser dur wo bts us act rd rs) sz [.ref (ad 2)]) (va_Qv (fun (u : Unit) => True) (fun (u : Unit) (t : State) => xB (dC, dI) vwCl (xt cd) (xA 15 ad sz) (xw ad cd w wr fl (nI 1) sc lw rot vb rec tk live row cur ser dur wo bts us act rd rs) t) (xA 15 ad sz)) 0 0 (xA 15 ad sz) := by
  refine Met.ofW (cc := b_C_turnOn) (maxL := 1) (ret := none) (by decide) rfl ?_
  intro P e s m args below meth c0 s₁ B hml hv
  obtain ⟨rfl, hsz, hP, hK, hD0⟩ := hv
  have hx := B.exec
  have hb := B.bytes
  have hr := B.returns
  have hts := atoms_spec (ws := w_C_turnOn) B.pre
  have hown : s.vm.findClass R_C = some m.cls := findClass_of_methodNamed B.named
  have hlocks := B.notSynchronized
  subst hsz
  have hD := xw_D (sz := s.heap.size) hD0
  have hS : va_S (xA 15 ad s.heap.size) s.heap s.heap [] := va_S.rf
  have hA : ∀ q : Nat, s.heap.size ≤ q → (xA 15 ad s.heap.size) q := fun q h => Or.inr h
  have hl := lv_entry ([.ref (ad 2)]) (n := 1) (Nat.le_of_ble_eq_true rfl)
  rw [lg_entry_eq]
  generalize (lg_sl ([.ref (ad 2)]) ++ List.replicate (1 - (lg_sl ([.ref (ad 2)])).length) Slot.unset).toArray = ls at hl ⊢
  have hl : lv_has ls 1 [(0, .ref (ad 2))] := hl
  refine lv_aload_n hx hb d_C_turnOn_0 rfl (lv_at hl 0 rfl) ?_
  refine lv_iconst (v := nI 1) hx hb d_C_turnOn_1 (by decide) ?_
  refine va_put (D := (dC, dI)) (ci := 0) (v := .int (nI 1)) (ty := .boolean) (C := R_C) (T := F_C) (N := 5) hx hb hts (fun w h => List.mem_cons_of_mem _ (in_C w h)) t_C ok_C nm_C hown hK hP hD hS 2 rfl rfl 3 (by decide) (hts (.fieldLink R_C 22 R_C "powered" "Z") (List.mem_cons_of_mem _ t_37)) (fun _ h9 => h9) rfl (by decide +kernel) (by first | rfl | decide | assumption) rfl (Nat.le_of_ble_eq_true rfl) d_C_turnOn_2 (fun H locs hP hD hS => ?_)
  have hP : va_P (dC, dI) vwCl (xw ad cd w wr fl (nI 1) sc lw rot vb rec tk live row cur ser dur wo bts us act rd rs) H := hP
  have hD : va_D (xA 15 ad s.heap.size) (xw ad cd w wr fl (nI 1) sc lw rot vb rec tk live row cur ser dur wo bts us act rd rs) := hD
  exact W.vret hx hb hr (fun t ht hW => ⟨⟨(), rfl, by first | rfl | trivial | omega, ⟨by rw [ht]; exact hP, va_K.moved hW.alike hK, hD⟩⟩, hS.F ht⟩) hS.2.2 d_C_turnOn_5
set_option maxHeartbeats 4000000 in
set_option maxRecDepth 100000 in
theorem c_C_tellCut (l : Launch) (dC : Nat → ClassId) (dI : Nat → Nat → Nat) (ad cd : Nat → Nat) (sz : Nat) (w wr fl : Nat → Int32) (pw sc : Int32) (lw rot vb : Nat → Int32) (rec tk : Int32) (live row : Nat → Int32) (cur ser dur wo : Int32) (bts : Nat → Int32) (us : Int32) (act : Nat → Int32) (rd rs : Int32) (n : Int32) : Met l y_C_tellCut w_C_tellCut ({ frames := 0, cells := 0, slots := 0, locals := 0 }) (xP (dC, dI) vwCl (xt cd) (xw ad cd w wr fl pw sc lw rot vb rec tk live row cur ser dur wo bts us act rd rs) sz [.ref (ad 2), .int n]) (va_Qv (fun (u : Unit) => True) (fun (u : Unit) (t : State) => xB (dC, dI) vwCl (xt cd) (xA 15 ad sz) (xw ad cd w wr fl pw n lw rot vb rec tk live row cur ser dur wo bts us act rd rs) t) (xA 15 ad sz)) 0 0 (xA 15 ad sz) := by
  refine Met.ofW (cc := b_C_tellCut) (maxL := 2) (ret := none) (by decide) rfl ?_
  intro P e s m args below meth c0 s₁ B hml hv
  obtain ⟨rfl, hsz, hP, hK, hD0⟩ := hv
  have hx := B.exec
  have hb := B.bytes
  have hr := B.returns
  have hts := atoms_spec (ws := w_C_tellCut) B.pre
  have hown : s.vm.findClass R_C = some m.cls := findClass_of_methodNamed B.named
  have hlocks := B.notSynchronized
  subst hsz
  have hD := xw_D (sz := s.heap.size) hD0
  have hS : va_S (xA 15 ad s.heap.size) s.heap s.heap [] := va_S.rf
  have hA : ∀ q : Nat, s.heap.size ≤ q → (xA 15 ad s.heap.size) q := fun q h => Or.inr h
  have hl := lv_entry ([.ref (ad 2), .int n]) (n := 2) (Nat.le_of_ble_eq_true rfl)
  rw [lg_entry_eq]
  generalize (lg_sl ([.ref (ad 2), .int n]) ++ List.replicate (2 - (lg_sl ([.ref (ad 2), .int n])).length) Slot.unset).toArray = ls at hl ⊢
  have hl : lv_has ls 2 [(0, .ref (ad 2)), (1, .int n)] := hl
  refine lv_aload_n hx hb d_C_tellCut_0 rfl (lv_at hl 0 rfl) ?_
  refine lv_iload_n hx hb d_C_tellCut_1 rfl (lv_at hl 1 rfl) ?_
  refine va_put (D := (dC, dI)) (ci := 0) (v := .int n) (ty := .int) (C := R_C) (T := F_C) (N := 5) hx hb hts (fun w h => List.mem_cons_of_mem _ (in_C w h)) t_C ok_C nm_C hown hK hP hD hS 2 rfl rfl 4 (by decide) (hts (.fieldLink R_C 26 R_C "stepsToCut" "I") (List.mem_cons_of_mem _ t_38)) (fun _ h9 => h9) rfl (by decide +kernel) rfl rfl (Nat.le_of_ble_eq_true rfl) d_C_tellCut_2 (fun H locs hP hD hS => ?_)
  have hP : va_P (dC, dI) vwCl (xw ad cd w wr fl pw n lw rot vb rec tk live row cur ser dur wo bts us act rd rs) H := hP
  have hD : va_D (xA 15 ad s.heap.size) (xw ad cd w wr fl pw n lw rot vb rec tk live row cur ser dur wo bts us act rd rs) := hD
  exact W.vret hx hb hr (fun t ht hW => ⟨⟨(), rfl, by first | rfl | trivial | omega, ⟨by rw [ht]; exact hP, va_K.moved hW.alike hK, hD⟩⟩, hS.F ht⟩) hS.2.2 d_C_tellCut_5
set_option maxHeartbeats 4000000 in
set_option maxRecDepth 100000 in
theorem c_C_flip (l : Launch) (dC : Nat → ClassId) (dI : Nat → Nat → Nat) (ad cd : Nat → Nat) (sz : Nat) (w wr fl : Nat → Int32) (pw sc : Int32) (lw rot vb : Nat → Int32) (rec tk : Int32) (live row : Nat → Int32) (cur ser dur wo : Int32) (bts : Nat → Int32) (us : Int32) (act : Nat → Int32) (rd rs : Int32) (pa k : Nat) (mask : Int32) (hp : pa < 32) (hk : k < 16) : Met l y_C_flip w_C_flip ({ frames := 0, cells := 0, slots := 0, locals := 0 }) (xP (dC, dI) vwCl (xt cd) (xw ad cd w wr fl pw sc lw rot vb rec tk live row cur ser dur wo bts us act rd rs) sz [.ref (ad 2), .int (nI pa), .int (nI k), .int mask]) (va_Qv (fun (u : (Nat → Nat → Int32) × (Nat → Int32) × (Nat → Nat)) => True) (fun (u : (Nat → Nat → Int32) × (Nat → Int32) × (Nat → Nat)) (t : State) => xB (dC, dI) vwCl (xt cd) (xA 15 ad sz) (xw ad cd (u.1 0) wr fl pw sc lw rot vb rec tk live row cur ser dur wo bts us act rd rs) t) (xA 15 ad sz)) 0 0 (xA 15 ad sz) := by
  refine Met.ofW (cc := b_C_flip) (maxL := 4) (ret := none) (by decide) rfl ?_
  intro P e s m args below meth c0 s₁ B hml hv
  obtain ⟨rfl, hsz, hP, hK, hD0⟩ := hv
  have hx := B.exec
  have hb := B.bytes
  have hr := B.returns
  have hts := atoms_spec (ws := w_C_flip) B.pre
  have hown : s.vm.findClass R_C = some m.cls := findClass_of_methodNamed B.named
  have hlocks := B.notSynchronized
  subst hsz
  have hD := xw_D (sz := s.heap.size) hD0
  have hS : va_S (xA 15 ad s.heap.size) s.heap s.heap [] := va_S.rf
  have hA : ∀ q : Nat, s.heap.size ≤ q → (xA 15 ad s.heap.size) q := fun q h => Or.inr h
  have hl := lv_entry ([.ref (ad 2), .int (nI pa), .int (nI k), .int mask]) (n := 4) (Nat.le_of_ble_eq_true rfl)
  rw [lg_entry_eq]
  generalize (lg_sl ([.ref (ad 2), .int (nI pa), .int (nI k), .int mask]) ++ List.replicate (4 - (lg_sl ([.ref (ad 2), .int (nI pa), .int (nI k), .int mask])).length) Slot.unset).toArray = ls at hl ⊢
  have hl : lv_has ls 4 [(0, .ref (ad 2)), (1, .int (nI pa)), (2, .int (nI k)), (3, .int mask)] := hl
  refine lv_aload_n hx hb d_C_flip_0 rfl (lv_at hl 0 rfl) ?_
  refine va_get (D := (dC, dI)) (ci := 0) (v := .ref (ad 8)) (C := R_C) (T := F_C) (N := 5) hx hb hts (fun w h => List.mem_cons_of_mem _ (in_C w h)) hown hK hP 2 rfl rfl 0 (by decide) (hts (.fieldLink R_C 9 R_C "words" "[I") (List.mem_cons_of_mem _ t_34)) (fun _ h9 => h9) rfl d_C_flip_1 ?_
  refine lv_iload_n hx hb d_C_flip_4 rfl (lv_at hl 1 rfl) ?_
  refine lv_bipush (v := nI 16) hx hb d_C_flip_5 (by decide) ?_
  refine lv_imul hx hb d_C_flip_7 ?_
  refine tp_i (y := nI (pa * 16)) (pk_mul _ _) ?_
  refine lv_iload_n hx hb d_C_flip_8 rfl (lv_at hl 2 rfl) ?_
  refine lv_iadd hx hb d_C_flip_9 ?_
  refine tp_i (y := nI ((pa * 16) + k)) (nI_add _ _) ?_
  refine lv_dup2_11 hx hb d_C_flip_10 rfl rfl ?_
  refine va_iald hx hb hK hP 8 3 rfl rfl (vp_in_nI (by omega) (by decide)) d_C_flip_11 ?_
  refine tp_i (y := w ((pa * 16) + k)) (by rw [nI_clamp (by omega)]) ?_
  refine lv_iload_n hx hb d_C_flip_12 rfl (lv_at hl 3 rfl) ?_
  refine lv_ixor hx hb d_C_flip_13 ?_
  refine va_iast hx hb hK hP hD hS 8 3 rfl rfl (vp_in_nI (by omega) (by decide)) d_C_flip_14 (fun H locs hP hD hS => ?_)
  rw [nI_clamp (by omega)] at hP hD
  have hP : va_P (dC, dI) vwCl (xw ad cd (upd w ((pa * 16) + k) ((w ((pa * 16) + k)) ^^^ mask)) wr fl pw sc lw rot vb rec tk live row cur ser dur wo bts us act rd rs) H := hP
  have hD : va_D (xA 15 ad s.heap.size) (xw ad cd (upd w ((pa * 16) + k) ((w ((pa * 16) + k)) ^^^ mask)) wr fl pw sc lw rot vb rec tk live row cur ser dur wo bts us act rd rs) := hD
  exact W.vret hx hb hr (fun t ht hW => ⟨⟨(fun i => [upd w ((pa * 16) + k) ((w ((pa * 16) + k)) ^^^ mask)].getD i (fun _ => 0), fun i => [].getD i 0, fun i => [].getD i 0), rfl, by first | rfl | trivial | omega, ⟨by rw [ht]; exact hP, va_K.moved hW.alike hK, hD⟩⟩, hS.F ht⟩) hS.2.2 d_C_flip_15
set_option maxHeartbeats 4000000 in
set_option maxRecDepth 100000 in
theorem c_C_markFailed (l : Launch) (dC : Nat → ClassId) (dI : Nat → Nat → Nat) (ad cd : Nat → Nat) (sz : Nat) (w wr fl : Nat → Int32) (pw sc : Int32) (lw rot vb : Nat → Int32) (rec tk : Int32) (live row : Nat → Int32) (cur ser dur wo : Int32) (bts : Nat → Int32) (us : Int32) (act : Nat → Int32) (rd rs : Int32) (b : Nat) (hp : b < 8) (hfl : ∀ i, i < 8 → B01 (fl i)) : Met l y_C_markFailed w_C_markFailed ({ frames := 0, cells := 0, slots := 0, locals := 0 }) (xP (dC, dI) vwCl (xt cd) (xw ad cd w wr fl pw sc lw rot vb rec tk live row cur ser dur wo bts us act rd rs) sz [.ref (ad 2), .int (nI b)]) (va_Qv (fun (u : (Nat → Nat → Int32) × (Nat → Int32) × (Nat → Nat)) => ∀ i, i < 8 → B01 ((u.1 0) i)) (fun (u : (Nat → Nat → Int32) × (Nat → Int32) × (Nat → Nat)) (t : State) => xB (dC, dI) vwCl (xt cd) (xA 15 ad sz) (xw ad cd w wr (u.1 0) pw sc lw rot vb rec tk live row cur ser dur wo bts us act rd rs) t) (xA 15 ad sz)) 0 0 (xA 15 ad sz) := by
  refine Met.ofW (cc := b_C_markFailed) (maxL := 2) (ret := none) (by decide) rfl ?_
  intro P e s m args below meth c0 s₁ B hml hv
  obtain ⟨rfl, hsz, hP, hK, hD0⟩ := hv
  have hx := B.exec
  have hb := B.bytes
  have hr := B.returns
  have hts := atoms_spec (ws := w_C_markFailed) B.pre
  have hown : s.vm.findClass R_C = some m.cls := findClass_of_methodNamed B.named
  have hlocks := B.notSynchronized
  subst hsz
  have hD := xw_D (sz := s.heap.size) hD0
  have hS : va_S (xA 15 ad s.heap.size) s.heap s.heap [] := va_S.rf
  have hA : ∀ q : Nat, s.heap.size ≤ q → (xA 15 ad s.heap.size) q := fun q h => Or.inr h
  have hl := lv_entry ([.ref (ad 2), .int (nI b)]) (n := 2) (Nat.le_of_ble_eq_true rfl)
  rw [lg_entry_eq]
  generalize (lg_sl ([.ref (ad 2), .int (nI b)]) ++ List.replicate (2 - (lg_sl ([.ref (ad 2), .int (nI b)])).length) Slot.unset).toArray = ls at hl ⊢
  have hl : lv_has ls 2 [(0, .ref (ad 2)), (1, .int (nI b))] := hl
  refine lv_aload_n hx hb d_C_markFailed_0 rfl (lv_at hl 0 rfl) ?_
  refine va_get (D := (dC, dI)) (ci := 0) (v := .ref (ad 10)) (C := R_C) (T := F_C) (N := 5) hx hb hts (fun w h => List.mem_cons_of_mem _ (in_C w h)) hown hK hP 2 rfl rfl 2 (by decide) (hts (.fieldLink R_C 18 R_C "failed" "[Z") (List.mem_cons_of_mem _ t_36)) (fun _ h9 => h9) rfl d_C_markFailed_1 ?_
  refine lv_iload_n hx hb d_C_markFailed_4 rfl (lv_at hl 1 rfl) ?_
  refine lv_iconst (v := nI 1) hx hb d_C_markFailed_5 (by decide) ?_
  refine va_zast hx hb hK hP hD hS 10 5 rfl rfl (vp_in_nI (by omega) (by decide)) d_C_markFailed_6 (fun H locs hP hD hS => ?_)
  rw [nI_clamp (by omega)] at hP hD
  have hP : va_P (dC, dI) vwCl (xw ad cd w wr (upd fl b (vp_nar .boolean (nI 1))) pw sc lw rot vb rec tk live row cur ser dur wo bts us act rd rs) H := hP
  have hD : va_D (xA 15 ad s.heap.size) (xw ad cd w wr (upd fl b (vp_nar .boolean (nI 1))) pw sc lw rot vb rec tk live row cur ser dur wo bts us act rd rs) := hD
  exact W.vret hx hb hr (fun t ht hW => ⟨⟨(fun i => [upd fl b (vp_nar .boolean (nI 1))].getD i (fun _ => 0), fun i => [].getD i 0, fun i => [].getD i 0), rfl, B01_upd hfl (Or.inr rfl), ⟨by rw [ht]; exact hP, va_K.moved hW.alike hK, hD⟩⟩, hS.F ht⟩) hS.2.2 d_C_markFailed_7
set_option maxHeartbeats 4000000 in
set_option maxRecDepth 100000 in
theorem c_C_mayStep (l : Launch) (dC : Nat → ClassId) (dI : Nat → Nat → Nat) (ad cd : Nat → Nat) (sz : Nat) (w wr fl : Nat → Int32) (pw sc : Int32) (lw rot vb : Nat → Int32) (rec tk : Int32) (live row : Nat → Int32) (cur ser dur wo : Int32) (bts : Nat → Int32) (us : Int32) (act : Nat → Int32) (rd rs : Int32)  (hpw : B01 pw) : Met l y_C_mayStep w_C_mayStep ({ frames := 0, cells := 0, slots := 0, locals := 0 }) (xP (dC, dI) vwCl (xt cd) (xw ad cd w wr fl pw sc lw rot vb rec tk live row cur ser dur wo bts us act rd rs) sz [.ref (ad 2)]) (va_Qi (fun r (u : (Nat → Nat → Int32) × (Nat → Int32) × (Nat → Nat)) => r = (u.2.1 0) ∧ B01 (u.2.1 0)) (fun (u : (Nat → Nat → Int32) × (Nat → Int32) × (Nat → Nat)) (t : State) => xB (dC, dI) vwCl (xt cd) (xA 15 ad sz) (xw ad cd w wr fl (u.2.1 0) (u.2.1 1) lw rot vb rec tk live row cur ser dur wo bts us act rd rs) t) (xA 15 ad sz)) 0 0 (xA 15 ad sz) := by
  refine Met.ofW (cc := b_C_mayStep) (maxL := 1) (ret := (some (.boolean))) (by decide) rfl ?_
  intro P e s m args below meth c0 s₁ B hml hv
  obtain ⟨rfl, hsz, hP, hK, hD0⟩ := hv
  have hx := B.exec
  have hb := B.bytes
  have hr := B.returns
  have hts := atoms_spec (ws := w_C_mayStep) B.pre
  have hown : s.vm.findClass R_C = some m.cls := findClass_of_methodNamed B.named
  have hlocks := B.notSynchronized
  subst hsz
  have hD := xw_D (sz := s.heap.size) hD0
  have hS : va_S (xA 15 ad s.heap.size) s.heap s.heap [] := va_S.rf
  have hA : ∀ q : Nat, s.heap.size ≤ q → (xA 15 ad s.heap.size) q := fun q h => Or.inr h
  have hl := lv_entry ([.ref (ad 2)]) (n := 1) (Nat.le_of_ble_eq_true rfl)
  rw [lg_entry_eq]
  generalize (lg_sl ([.ref (ad 2)]) ++ List.replicate (1 - (lg_sl ([.ref (ad 2)])).length) Slot.unset).toArray = ls at hl ⊢
  have hl : lv_has ls 1 [(0, .ref (ad 2))] := hl
  refine lv_aload_n hx hb d_C_mayStep_0 rfl (lv_at hl 0 rfl) ?_
  refine va_get (D := (dC, dI)) (ci := 0) (v := .int sc) (C := R_C) (T := F_C) (N := 5) hx hb hts (fun w h => List.mem_cons_of_mem _ (in_C w h)) hown hK hP 2 rfl rfl 4 (by decide) (hts (.fieldLink R_C 26 R_C "stepsToCut" "I") (List.mem_cons_of_mem _ t_38)) (fun _ h9 => h9) rfl d_C_mayStep_1 ?_
  refine lv_if_ne (tgt := 20) hx hb d_C_mayStep_4 (by decide) (fun c4 => ?_) (fun c4 => ?_)
  ·
    refine lv_aload_n hx hb d_C_mayStep_20 rfl (lv_at hl 0 rfl) ?_
    refine va_get (D := (dC, dI)) (ci := 0) (v := .int sc) (C := R_C) (T := F_C) (N := 5) hx hb hts (fun w h => List.mem_cons_of_mem _ (in_C w h)) hown hK hP 2 rfl rfl 4 (by decide) (hts (.fieldLink R_C 26 R_C "stepsToCut" "I") (List.mem_cons_of_mem _ t_38)) (fun _ h9 => h9) rfl d_C_mayStep_21 ?_
    refine lv_if_le (tgt := 37) hx hb d_C_mayStep_24 (by decide) (fun c24 => ?_) (fun c24 => ?_)
    ·
      refine lv_aload_n hx hb d_C_mayStep_37 rfl (lv_at hl 0 rfl) ?_
      refine va_get (D := (dC, dI)) (ci := 0) (v := .int pw) (C := R_C) (T := F_C) (N := 5) hx hb hts (fun w h => List.mem_cons_of_mem _ (in_C w h)) hown hK hP 2 rfl rfl 3 (by decide) (hts (.fieldLink R_C 22 R_C "powered" "Z") (List.mem_cons_of_mem _ t_37)) (fun _ h9 => h9) rfl d_C_mayStep_38 ?_
      exact W.zret (v := pw) hx hb hr (by first | rfl | exact hpw.nar) (fun t ht hW => ⟨⟨pw, (fun i => [].getD i (fun _ => 0), fun i => [pw, sc].getD i 0, fun i => [].getD i 0), rfl, ⟨rfl, by first | exact hpw | exact Or.inl rfl⟩, ⟨by rw [ht]; exact hP, va_K.moved hW.alike hK, hD⟩⟩, hS.F ht⟩) hS.2.2 d_C_mayStep_41
    ·
      refine lv_aload_n hx hb d_C_mayStep_27 rfl (lv_at hl 0 rfl) ?_
      refine lv_dup hx hb d_C_mayStep_28 rfl ?_
      refine va_get (D := (dC, dI)) (ci := 0) (v := .int sc) (C := R_C) (T := F_C) (N := 5) hx hb hts (fun w h => List.mem_cons_of_mem _ (in_C w h)) hown hK hP 2 rfl rfl 4 (by decide) (hts (.fieldLink R_C 26 R_C "stepsToCut" "I") (List.mem_cons_of_mem _ t_38)) (fun _ h9 => h9) rfl d_C_mayStep_29 ?_
      refine lv_iconst (v := nI 1) hx hb d_C_mayStep_32 (by decide) ?_
      refine lv_isub hx hb d_C_mayStep_33 ?_
      refine va_put (D := (dC, dI)) (ci := 0) (v := .int (sc - (nI 1))) (ty := .int) (C := R_C) (T := F_C) (N := 5) hx hb hts (fun w h => List.mem_cons_of_mem _ (in_C w h)) t_C ok_C nm_C hown hK hP hD hS 2 rfl rfl 4 (by decide) (hts (.fieldLink R_C 26 R_C "stepsToCut" "I") (List.mem_cons_of_mem _ t_38)) (fun _ h9 => h9) rfl (by decide +kernel) rfl rfl (Nat.le_of_ble_eq_true rfl) d_C_mayStep_34 (fun H locs hP hD hS => ?_)
      have hP : va_P (dC, dI) vwCl (xw ad cd w wr fl pw (sc - (nI 1)) lw rot vb rec tk live row cur ser dur wo bts us act rd rs) H := hP
      have hD : va_D (xA 15 ad s.heap.size) (xw ad cd w wr fl pw (sc - (nI 1)) lw rot vb rec tk live row cur ser dur wo bts us act rd rs) := hD
      refine lv_aload_n hx hb d_C_mayStep_37 rfl (lv_at hl 0 rfl) ?_
      refine va_get (D := (dC, dI)) (ci := 0) (v := .int pw) (C := R_C) (T := F_C) (N := 5) hx hb hts (fun w h => List.mem_cons_of_mem _ (in_C w h)) hown hK hP 2 rfl rfl 3 (by decide) (hts (.fieldLink R_C 22 R_C "powered" "Z") (List.mem_cons_of_mem _ t_37)) (fun _ h9 => h9) rfl d_C_mayStep_38 ?_
      exact W.zret (v := pw) hx hb hr (by first | rfl | exact hpw.nar) (fun t ht hW => ⟨⟨pw, (fun i => [].getD i (fun _ => 0), fun i => [pw, sc - (nI 1)].getD i 0, fun i => [].getD i 0), rfl, ⟨rfl, by first | exact hpw | exact Or.inl rfl⟩, ⟨by rw [ht]; exact hP, va_K.moved hW.alike hK, hD⟩⟩, hS.F ht⟩) hS.2.2 d_C_mayStep_41
  ·
    refine lv_aload_n hx hb d_C_mayStep_7 rfl (lv_at hl 0 rfl) ?_
    refine lv_iconst (v := nI 0) hx hb d_C_mayStep_8 (by decide) ?_
    refine va_put (D := (dC, dI)) (ci := 0) (v := .int (nI 0)) (ty := .boolean) (C := R_C) (T := F_C) (N := 5) hx hb hts (fun w h => List.mem_cons_of_mem _ (in_C w h)) t_C ok_C nm_C hown hK hP hD hS 2 rfl rfl 3 (by decide) (hts (.fieldLink R_C 22 R_C "powered" "Z") (List.mem_cons_of_mem _ t_37)) (fun _ h9 => h9) rfl (by decide +kernel) (by first | rfl | decide | assumption) rfl (Nat.le_of_ble_eq_true rfl) d_C_mayStep_9 (fun H locs hP hD hS => ?_)
    have hP : va_P (dC, dI) vwCl (xw ad cd w wr fl (nI 0) sc lw rot vb rec tk live row cur ser dur wo bts us act rd rs) H := hP
    have hD : va_D (xA 15 ad s.heap.size) (xw ad cd w wr fl (nI 0) sc lw rot vb rec tk live row cur ser dur wo bts us act rd rs) := hD
    refine lv_aload_n hx hb d_C_mayStep_12 rfl (lv_at hl 0 rfl) ?_
    refine lv_iconst (v := (-1)) hx hb d_C_mayStep_13 (by decide) ?_
    refine va_put (D := (dC, dI)) (ci := 0) (v := .int (-1)) (ty := .int) (C := R_C) (T := F_C) (N := 5) hx hb hts (fun w h => List.mem_cons_of_mem _ (in_C w h)) t_C ok_C nm_C hown hK hP hD hS 2 rfl rfl 4 (by decide) (hts (.fieldLink R_C 26 R_C "stepsToCut" "I") (List.mem_cons_of_mem _ t_38)) (fun _ h9 => h9) rfl (by decide +kernel) rfl rfl (Nat.le_of_ble_eq_true rfl) d_C_mayStep_14 (fun H locs hP hD hS => ?_)
    have hP : va_P (dC, dI) vwCl (xw ad cd w wr fl (nI 0) (-1) lw rot vb rec tk live row cur ser dur wo bts us act rd rs) H := hP
    have hD : va_D (xA 15 ad s.heap.size) (xw ad cd w wr fl (nI 0) (-1) lw rot vb rec tk live row cur ser dur wo bts us act rd rs) := hD
    refine lv_goto (tgt := 37) hx hb d_C_mayStep_17 (by decide) ?_
    refine lv_aload_n hx hb d_C_mayStep_37 rfl (lv_at hl 0 rfl) ?_
    refine va_get (D := (dC, dI)) (ci := 0) (v := .int (nI 0)) (C := R_C) (T := F_C) (N := 5) hx hb hts (fun w h => List.mem_cons_of_mem _ (in_C w h)) hown hK hP 2 rfl rfl 3 (by decide) (hts (.fieldLink R_C 22 R_C "powered" "Z") (List.mem_cons_of_mem _ t_37)) (fun _ h9 => h9) rfl d_C_mayStep_38 ?_
    exact W.zret (v := nI 0) hx hb hr (by first | rfl | exact hpw.nar) (fun t ht hW => ⟨⟨nI 0, (fun i => [].getD i (fun _ => 0), fun i => [nI 0, (-1)].getD i 0, fun i => [].getD i 0), rfl, ⟨rfl, by first | exact hpw | exact Or.inl rfl⟩, ⟨by rw [ht]; exact hP, va_K.moved hW.alike hK, hD⟩⟩, hS.F ht⟩) hS.2.2 d_C_mayStep_41
set_option maxHeartbeats 4000000 in
set_option maxRecDepth 100000 in
theorem c_C_writePage (l : Launch) (dC : Nat → ClassId) (dI : Nat → Nat → Nat) (ad cd : Nat → Nat) (sz : Nat) (w wr fl : Nat → Int32) (pw sc : Int32) (lw rot vb : Nat → Int32) (rec tk : Int32) (live row : Nat → Int32) (cur ser dur wo : Int32) (bts : Nat → Int32) (us : Int32) (act : Nat → Int32) (rd rs : Int32) (pa : Nat) (hp : pa < 32) (hpw : B01 pw) : Met l y_C_writePage w_C_writePage ({ frames := 1, cells := 0, slots := 0, locals := 20 }) (xP (dC, dI) vwCl (xt cd) (xw ad cd w wr fl pw sc lw rot vb rec tk live row cur ser dur wo bts us act rd rs) sz [.ref (ad 2), .int (nI pa), .ref (ad 7)]) (va_Qi (fun r (u : (Nat → Nat → Int32) × (Nat → Int32) × (Nat → Nat)) => B01 r ∧ B01 (u.2.1 0)) (fun (u : (Nat → Nat → Int32) × (Nat → Int32) × (Nat → Nat)) (t : State) => xB (dC, dI) vwCl (xt cd) (xA 15 ad sz) (xw ad cd (u.1 0) wr fl (u.2.1 0) (u.2.1 1) lw rot vb rec tk live row cur ser dur wo bts us act rd rs) t) (xA 15 ad sz)) 0 0 (xA 15 ad sz) := by
  refine Met.ofW (cc := b_C_writePage) (maxL := 4) (ret := (some (.boolean))) (by decide) rfl ?_
  intro P e s m args below meth c0 s₁ B hml hv
  obtain ⟨rfl, hsz, hP, hK, hD0⟩ := hv
  have hx := B.exec
  have hb := B.bytes
  have hr := B.returns
  have hts := atoms_spec (ws := w_C_writePage) B.pre
  have hown : s.vm.findClass R_C = some m.cls := findClass_of_methodNamed B.named
  have hlocks := B.notSynchronized
  subst hsz
  have hD := xw_D (sz := s.heap.size) hD0
  have hS : va_S (xA 15 ad s.heap.size) s.heap s.heap [] := va_S.rf
  have hA : ∀ q : Nat, s.heap.size ≤ q → (xA 15 ad s.heap.size) q := fun q h => Or.inr h
  have hl := lv_entry ([.ref (ad 2), .int (nI pa), .ref (ad 7)]) (n := 4) (Nat.le_of_ble_eq_true rfl)
  rw [lg_entry_eq]
  generalize (lg_sl ([.ref (ad 2), .int (nI pa), .ref (ad 7)]) ++ List.replicate (4 - (lg_sl ([.ref (ad 2), .int (nI pa), .ref (ad 7)])).length) Slot.unset).toArray = ls at hl ⊢
  have hl : lv_has ls 4 [(0, .ref (ad 2)), (1, .int (nI pa)), (2, .ref (ad 7))] := hl
  refine lv_iconst (v := nI 0) hx hb d_C_writePage_0 (by decide) ?_
  refine lv_istore_n hx hb d_C_writePage_1 rfl hl (by decide) rfl (fun ls hl => ?_)
  have hl : lv_has ls 4 [(3, .int (nI 0)), (0, .ref (ad 2)), (1, .int (nI pa)), (2, .ref (ad 7))] := hl
  have lp2 : ∀ (n : Nat) (k : Nat) (wv : Nat → Int32) (pv : Int32) (sv : Int32) (H : Heap) (locs : List Loc) (ls : Array Slot), (16 - k) < n → (k ≤ 16) → (B01 pv) → lv_has ls 4 [(0, .ref (ad 2)), (1, .int (nI pa)), (2, .ref (ad 7)), (3, .int (nI k))] → va_P (dC, dI) vwCl (xw ad cd wv wr fl pv sv lw rot vb rec tk live row cur ser dur wo bts us act rd rs) H → va_D (xA 15 ad s.heap.size) (xw ad cd wv wr fl pv sv lw rot vb rec tk live row cur ser dur wo bts us act rd rs) → va_S (xA 15 ad s.heap.size) s.heap H locs → W P l e (headSpec w_C_writePage ({ frames := 1, cells := 0, slots := 0, locals := 20 })).room s m (([.ref (ad 2), .int (nI pa), .ref (ad 7)] : List Value).toArray) below meth c0 H locs 0 0 (MQ below (va_Qi (fun r (u : (Nat → Nat → Int32) × (Nat → Int32) × (Nat → Nat)) => B01 r ∧ B01 (u.2.1 0)) (fun (u : (Nat → Nat → Int32) × (Nat → Int32) × (Nat → Nat)) (t : State) => xB (dC, dI) vwCl (xt cd) (xA 15 ad s.heap.size) (xw ad cd (u.1 0) wr fl (u.2.1 0) (u.2.1 1) lw rot vb rec tk live row cur ser dur wo bts us act rd rs) t) (xA 15 ad s.heap.size)) (([.ref (ad 2), .int (nI pa), .ref (ad 7)] : List Value).toArray) s 0 0 (xA 15 ad s.heap.size)) (F0 m 2 ls []) := by
    intro n
    induction n with
    | zero => intro k wv pv sv H locs ls hm; intros; omega
    | succ n ih2 =>
      intro k wv pv sv H locs ls hm hk hpw hl hP hD hS
      refine lv_iload_n hx hb d_C_writePage_2 rfl (lv_at hl 3 rfl) ?_
      refine lv_bipush (v := nI 16) hx hb d_C_writePage_3 (by decide) ?_
      refine lv_icmp_ge (tgt := 37) hx hb d_C_writePage_5 (by decide) (fun c5 => ?_) (fun c5 => ?_)
      ·
        have c5 := cd_ge_t (by omega) (by omega) c5
        refine lv_iconst (v := nI 1) hx hb d_C_writePage_37 (by decide) ?_
        exact W.zret (v := nI 1) hx hb hr (by first | rfl | decide | assumption) (fun t ht hW => ⟨⟨nI 1, (fun i => [wv].getD i (fun _ => 0), fun i => [pv, sv].getD i 0, fun i => [].getD i 0), rfl, ⟨by first | exact Or.inl rfl | exact Or.inr rfl, hpw⟩, ⟨by rw [ht]; exact hP, va_K.moved hW.alike hK, hD⟩⟩, hS.F ht⟩) hS.2.2 d_C_writePage_38
      ·
        have c5 := cd_ge_f (by omega) (by omega) c5
        refine lv_aload_n hx hb d_C_writePage_8 rfl (lv_at hl 0 rfl) ?_
        have hSz := hS.1
        refine va_calli (va_runV (C := R_C) (As := []) (rest := []) ⟨hx, hb, hml, hown, hts⟩ (c_C_mayStep l dC dI ad cd H.size wv wr fl pv sv lw rot vb rec tk live row cur ser dur wo bts us act rd rs  (hpw)) (cwV 0 hts (g_V t_432 t_434 s_13 t_3 t_435) rfl rfl rfl (by decide +kernel) ⟨by decide, by decide⟩) (xP_v hP hK hD 2 rfl rfl) rfl rfl hl.1 rfl (lv_room (Nat.le_of_ble_eq_true rfl)) d_C_writePage_9 ⟨Nat.le_refl _, Nat.le_refl _⟩) hS (fun q _ h => xA_up hS.1 q h) (fun q h => xA_up hS.1 q h) (fun r9 u9 t H1 locs1 ht hvm q9 hB hz1 hk1 hS => ?_)
        obtain ⟨hP1, hK1, hD1⟩ := hB
        rw [ht] at hP1
        have hD : va_D (xA 15 ad s.heap.size) (xw ad cd wv wr fl (u9.2.1 0) (u9.2.1 1) lw rot vb rec tk live row cur ser dur wo bts us act rd rs) := hD1.weaken (fun _ q _ h => xA_up hSz _ h)
        have hP : va_P (dC, dI) vwCl (xw ad cd wv wr fl (u9.2.1 0) (u9.2.1 1) lw rot vb rec tk live row cur ser dur wo bts us act rd rs) H1 := hP1
        generalize H1 = H at hP hS ⊢
        generalize locs1 = locs at hS ⊢
        obtain ⟨rfl, hpw⟩ := q9
        refine lv_if_ne (tgt := 17) hx hb d_C_writePage_12 (by decide) (fun c12 => ?_) (fun c12 => ?_)
        ·
          refine lv_aload_n hx hb d_C_writePage_17 rfl (lv_at hl 0 rfl) ?_
          refine va_get (D := (dC, dI)) (ci := 0) (v := .ref (ad 8)) (C := R_C) (T := F_C) (N := 5) hx hb hts (fun w h => List.mem_cons_of_mem _ (in_C w h)) hown hK hP 2 rfl rfl 0 (by decide) (hts (.fieldLink R_C 9 R_C "words" "[I") (List.mem_cons_of_mem _ t_34)) (fun _ h9 => h9) rfl d_C_writePage_18 ?_
          refine lv_iload_n hx hb d_C_writePage_21 rfl (lv_at hl 1 rfl) ?_
          refine lv_bipush (v := nI 16) hx hb d_C_writePage_22 (by decide) ?_
          refine lv_imul hx hb d_C_writePage_24 ?_
          refine tp_i (y := nI (pa * 16)) (pk_mul _ _) ?_
          refine lv_iload_n hx hb d_C_writePage_25 rfl (lv_at hl 3 rfl) ?_
          refine lv_iadd hx hb d_C_writePage_26 ?_
          refine tp_i (y := nI ((pa * 16) + k)) (nI_add _ _) ?_
          refine lv_aload_n hx hb d_C_writePage_27 rfl (lv_at hl 2 rfl) ?_
          refine lv_iload_n hx hb d_C_writePage_28 rfl (lv_at hl 3 rfl) ?_
          refine va_iald hx hb hK hP 7 2 rfl rfl (vp_in_nI (by omega) (by decide)) d_C_writePage_29 ?_
          refine tp_i (y := row k) (by rw [nI_clamp (by omega)]) ?_
          refine va_iast hx hb hK hP hD hS 8 3 rfl rfl (vp_in_nI (by omega) (by decide)) d_C_writePage_30 (fun H locs hP hD hS => ?_)
          rw [nI_clamp (by omega)] at hP hD
          have hP : va_P (dC, dI) vwCl (xw ad cd (upd wv ((pa * 16) + k) (row k)) wr fl (u9.2.1 0) (u9.2.1 1) lw rot vb rec tk live row cur ser dur wo bts us act rd rs) H := hP
          have hD : va_D (xA 15 ad s.heap.size) (xw ad cd (upd wv ((pa * 16) + k) (row k)) wr fl (u9.2.1 0) (u9.2.1 1) lw rot vb rec tk live row cur ser dur wo bts us act rd rs) := hD
          refine lv_iinc (k := 3) (v := nI (k + 1)) hx hb d_C_writePage_31 hl rfl (nI_1 _) (by decide) rfl (fun ls hl => ?_)
          have hl : lv_has ls 4 [(3, .int (nI (k + 1))), (0, .ref (ad 2)), (1, .int (nI pa)), (2, .ref (ad 7))] := hl
          refine lv_goto (tgt := 2) hx hb d_C_writePage_34 (by decide) ?_
          exact ih2 (k + 1) (upd wv ((pa * 16) + k) (row k)) (u9.2.1 0) (u9.2.1 1) H locs ls (by omega) (by omega) hpw (lv_sub hl [1, 2, 3, 0] rfl) hP hD hS
        ·
          refine lv_iconst (v := nI 0) hx hb d_C_writePage_15 (by decide) ?_
          exact W.zret (v := nI 0) hx hb hr (by first | rfl | decide | assumption) (fun t ht hW => ⟨⟨nI 0, (fun i => [wv].getD i (fun _ => 0), fun i => [u9.2.1 0, u9.2.1 1].getD i 0, fun i => [].getD i 0), rfl, ⟨by first | exact Or.inl rfl | exact Or.inr rfl, hpw⟩, ⟨by rw [ht]; exact hP, va_K.moved hW.alike hK, hD⟩⟩, hS.F ht⟩) hS.2.2 d_C_writePage_16
  exact lp2 _ 0 w pw sc s.heap [] ls (Nat.lt_succ_self _) (by omega) hpw (lv_sub hl [1, 2, 3, 0] rfl) hP hD hS
set_option maxHeartbeats 4000000 in
set_option maxRecDepth 100000 in
theorem c_C_eraseBlock (l : Launch) (dC : Nat → ClassId) (dI : Nat → Nat → Nat) (ad cd : Nat → Nat) (sz : Nat) (w wr fl : Nat → Int32) (pw sc : Int32) (lw rot vb : Nat → Int32) (rec tk : Int32) (live row : Nat → Int32) (cur ser dur wo : Int32) (bts : Nat → Int32) (us : Int32) (act : Nat → Int32) (rd rs : Int32) (b : Nat) (hp : b < 8) (hpw : B01 pw) : Met l y_C_eraseBlock w_C_eraseBlock ({ frames := 1, cells := 0, slots := 0, locals := 20 }) (xP (dC, dI) vwCl (xt cd) (xw ad cd w wr fl pw sc lw rot vb rec tk live row cur ser dur wo bts us act rd rs) sz [.ref (ad 2), .int (nI b)]) (va_Qi (fun r (u : (Nat → Nat → Int32) × (Nat → Int32) × (Nat → Nat)) => B01 r ∧ B01 (u.2.1 0)) (fun (u : (Nat → Nat → Int32) × (Nat → Int32) × (Nat → Nat)) (t : State) => xB (dC, dI) vwCl (xt cd) (xA 15 ad sz) (xw ad cd (u.1 0) (u.1 1) fl (u.2.1 0) (u.2.1 1) lw rot vb rec tk live row cur ser dur wo bts us act rd rs) t) (xA 15 ad sz)) 0 0 (xA 15 ad sz) := by
  refine Met.ofW (cc := b_C_eraseBlock) (maxL := 4) (ret := (some (.boolean))) (by decide) rfl ?_
  intro P e s m args below meth c0 s₁ B hml hv
  obtain ⟨rfl, hsz, hP, hK, hD0⟩ := hv
  have hx := B.exec
  have hb := B.bytes
  have hr := B.returns
  have hts := atoms_spec (ws := w_C_eraseBlock) B.pre
  have hown : s.vm.findClass R_C = some m.cls := findClass_of_methodNamed B.named
  have hlocks := B.notSynchronized
  subst hsz
  have hD := xw_D (sz := s.heap.size) hD0
  have hS : va_S (xA 15 ad s.heap.size) s.heap s.heap [] := va_S.rf
  have hA : ∀ q : Nat, s.heap.size ≤ q → (xA 15 ad s.heap.size) q := fun q h => Or.inr h
  have hl := lv_entry ([.ref (ad 2), .int (nI b)]) (n := 4) (Nat.le_of_ble_eq_true rfl)
  rw [lg_entry_eq]
  generalize (lg_sl ([.ref (ad 2), .int (nI b)]) ++ List.replicate (4 - (lg_sl ([.ref (ad 2), .int (nI b)])).length) Slot.unset).toArray = ls at hl ⊢
  have hl : lv_has ls 4 [(0, .ref (ad 2)), (1, .int (nI b))] := hl
  refine lv_aload_n hx hb d_C_eraseBlock_0 rfl (lv_at hl 0 rfl) ?_
  have hSz := hS.1
  refine va_calli (va_runV (C := R_C) (As := []) (rest := []) ⟨hx, hb, hml, hown, hts⟩ (c_C_mayStep l dC dI ad cd s.heap.size w wr fl pw sc lw rot vb rec tk live row cur ser dur wo bts us act rd rs  (hpw)) (cwV 0 hts (g_V t_432 t_434 s_13 t_3 t_435) rfl rfl rfl (by decide +kernel) ⟨by decide, by decide⟩) (xP_v hP hK hD 2 rfl rfl) rfl rfl hl.1 rfl (lv_room (Nat.le_of_ble_eq_true rfl)) d_C_eraseBlock_1 ⟨Nat.le_refl _, Nat.le_refl _⟩) hS (fun q _ h => xA_up hS.1 q h) (fun q h => xA_up hS.1 q h) (fun r1 u1 t H1 locs1 ht hvm q1 hB hz1 hk1 hS => ?_)
  obtain ⟨hP1, hK1, hD1⟩ := hB
  rw [ht] at hP1
  have hD : va_D (xA 15 ad s.heap.size) (xw ad cd w wr fl (u1.2.1 0) (u1.2.1 1) lw rot vb rec tk live row cur ser dur wo bts us act rd rs) := hD1.weaken (fun _ q _ h => xA_up hSz _ h)
  have hP : va_P (dC, dI) vwCl (xw ad cd w wr fl (u1.2.1 0) (u1.2.1 1) lw rot vb rec tk live row cur ser dur wo bts us act rd rs) H1 := hP1
  generalize H1 = H at hP hS ⊢
  generalize locs1 = locs at hS ⊢
  obtain ⟨rfl, hpw⟩ := q1
  refine lv_if_ne (tgt := 9) hx hb d_C_eraseBlock_4 (by decide) (fun c4 => ?_) (fun c4 => ?_)
  ·
    refine lv_iload_n hx hb d_C_eraseBlock_9 rfl (lv_at hl 1 rfl) ?_
    refine lv_iconst (v := nI 4) hx hb d_C_eraseBlock_10 (by decide) ?_
    refine lv_imul hx hb d_C_eraseBlock_11 ?_
    refine tp_i (y := nI (b * 4)) (pk_mul _ _) ?_
    refine lv_bipush (v := nI 16) hx hb d_C_eraseBlock_12 (by decide) ?_
    refine lv_imul hx hb d_C_eraseBlock_14 ?_
    refine tp_i (y := nI ((b * 4) * 16)) (pk_mul _ _) ?_
    refine lv_istore_n hx hb d_C_eraseBlock_15 rfl hl (by decide) rfl (fun ls hl => ?_)
    have hl : lv_has ls 4 [(2, .int (nI ((b * 4) * 16))), (0, .ref (ad 2)), (1, .int (nI b))] := hl
    refine lv_iconst (v := nI 0) hx hb d_C_eraseBlock_16 (by decide) ?_
    refine lv_istore_n hx hb d_C_eraseBlock_17 rfl hl (by decide) rfl (fun ls hl => ?_)
    have hl : lv_has ls 4 [(3, .int (nI 0)), (2, .int (nI ((b * 4) * 16))), (0, .ref (ad 2)), (1, .int (nI b))] := hl
    have lp18 : ∀ (n : Nat) (k : Nat) (wv : Nat → Int32) (H : Heap) (locs : List Loc) (ls : Array Slot), (64 - k) < n → (k ≤ 64) → lv_has ls 4 [(0, .ref (ad 2)), (1, .int (nI b)), (2, .int (nI (b * 4 * 16))), (3, .int (nI k))] → va_P (dC, dI) vwCl (xw ad cd wv wr fl (u1.2.1 0) (u1.2.1 1) lw rot vb rec tk live row cur ser dur wo bts us act rd rs) H → va_D (xA 15 ad s.heap.size) (xw ad cd wv wr fl (u1.2.1 0) (u1.2.1 1) lw rot vb rec tk live row cur ser dur wo bts us act rd rs) → va_S (xA 15 ad s.heap.size) s.heap H locs → W P l e (headSpec w_C_eraseBlock ({ frames := 1, cells := 0, slots := 0, locals := 20 })).room s m (([.ref (ad 2), .int (nI b)] : List Value).toArray) below meth c0 H locs 0 0 (MQ below (va_Qi (fun r (u : (Nat → Nat → Int32) × (Nat → Int32) × (Nat → Nat)) => B01 r ∧ B01 (u.2.1 0)) (fun (u : (Nat → Nat → Int32) × (Nat → Int32) × (Nat → Nat)) (t : State) => xB (dC, dI) vwCl (xt cd) (xA 15 ad s.heap.size) (xw ad cd (u.1 0) (u.1 1) fl (u.2.1 0) (u.2.1 1) lw rot vb rec tk live row cur ser dur wo bts us act rd rs) t) (xA 15 ad s.heap.size)) (([.ref (ad 2), .int (nI b)] : List Value).toArray) s 0 0 (xA 15 ad s.heap.size)) (F0 m 18 ls []) := by
      intro n
      induction n with
      | zero => intro k wv H locs ls hm; intros; omega
      | succ n ih18 =>
        intro k wv H locs ls hm hk hl hP hD hS
        refine lv_iload_n hx hb d_C_eraseBlock_18 rfl (lv_at hl 3 rfl) ?_
        refine lv_bipush (v := nI 64) hx hb d_C_eraseBlock_19 (by decide) ?_
        refine lv_icmp_ge (tgt := 39) hx hb d_C_eraseBlock_21 (by decide) (fun c21 => ?_) (fun c21 => ?_)
        ·
          have c21 := cd_ge_t (by omega) (by omega) c21
          refine lv_aload_n hx hb d_C_eraseBlock_39 rfl (lv_at hl 0 rfl) ?_
          refine va_get (D := (dC, dI)) (ci := 0) (v := .ref (ad 9)) (C := R_C) (T := F_C) (N := 5) hx hb hts (fun w h => List.mem_cons_of_mem _ (in_C w h)) hown hK hP 2 rfl rfl 1 (by decide) (hts (.fieldLink R_C 15 R_C "wear" "[I") (List.mem_cons_of_mem _ t_35)) (fun _ h9 => h9) rfl d_C_eraseBlock_40 ?_
          refine lv_iload_n hx hb d_C_eraseBlock_43 rfl (lv_at hl 1 rfl) ?_
          refine lv_dup2_11 hx hb d_C_eraseBlock_44 rfl rfl ?_
          refine va_iald hx hb hK hP 9 4 rfl rfl (vp_in_nI (by omega) (by decide)) d_C_eraseBlock_45 ?_
          refine tp_i (y := wr b) (by rw [nI_clamp (by omega)]) ?_
          refine lv_iconst (v := nI 1) hx hb d_C_eraseBlock_46 (by decide) ?_
          refine lv_iadd hx hb d_C_eraseBlock_47 ?_
          refine va_iast hx hb hK hP hD hS 9 4 rfl rfl (vp_in_nI (by omega) (by decide)) d_C_eraseBlock_48 (fun H locs hP hD hS => ?_)
          rw [nI_clamp (by omega)] at hP hD
          have hP : va_P (dC, dI) vwCl (xw ad cd wv (upd wr b ((wr b) + (nI 1))) fl (u1.2.1 0) (u1.2.1 1) lw rot vb rec tk live row cur ser dur wo bts us act rd rs) H := hP
          have hD : va_D (xA 15 ad s.heap.size) (xw ad cd wv (upd wr b ((wr b) + (nI 1))) fl (u1.2.1 0) (u1.2.1 1) lw rot vb rec tk live row cur ser dur wo bts us act rd rs) := hD
          refine lv_iconst (v := nI 1) hx hb d_C_eraseBlock_49 (by decide) ?_
          exact W.zret (v := nI 1) hx hb hr (by first | rfl | decide | assumption) (fun t ht hW => ⟨⟨nI 1, (fun i => [wv, upd wr b ((wr b) + (nI 1))].getD i (fun _ => 0), fun i => [u1.2.1 0, u1.2.1 1].getD i 0, fun i => [].getD i 0), rfl, ⟨by first | exact Or.inl rfl | exact Or.inr rfl, hpw⟩, ⟨by rw [ht]; exact hP, va_K.moved hW.alike hK, hD⟩⟩, hS.F ht⟩) hS.2.2 d_C_eraseBlock_50
        ·
          have c21 := cd_ge_f (by omega) (by omega) c21
          refine lv_aload_n hx hb d_C_eraseBlock_24 rfl (lv_at hl 0 rfl) ?_
          refine va_get (D := (dC, dI)) (ci := 0) (v := .ref (ad 8)) (C := R_C) (T := F_C) (N := 5) hx hb hts (fun w h => List.mem_cons_of_mem _ (in_C w h)) hown hK hP 2 rfl rfl 0 (by decide) (hts (.fieldLink R_C 9 R_C "words" "[I") (List.mem_cons_of_mem _ t_34)) (fun _ h9 => h9) rfl d_C_eraseBlock_25 ?_
          refine lv_iload_n hx hb d_C_eraseBlock_28 rfl (lv_at hl 2 rfl) ?_
          refine lv_iload_n hx hb d_C_eraseBlock_29 rfl (lv_at hl 3 rfl) ?_
          refine lv_iadd hx hb d_C_eraseBlock_30 ?_
          refine tp_i (y := nI ((b * 4 * 16) + k)) (nI_add _ _) ?_
          refine lv_iconst (v := (-1)) hx hb d_C_eraseBlock_31 (by decide) ?_
          refine va_iast hx hb hK hP hD hS 8 3 rfl rfl (vp_in_nI (by omega) (by decide)) d_C_eraseBlock_32 (fun H locs hP hD hS => ?_)
          rw [nI_clamp (by omega)] at hP hD
          have hP : va_P (dC, dI) vwCl (xw ad cd (upd wv ((b * 4 * 16) + k) (-1)) wr fl (u1.2.1 0) (u1.2.1 1) lw rot vb rec tk live row cur ser dur wo bts us act rd rs) H := hP
          have hD : va_D (xA 15 ad s.heap.size) (xw ad cd (upd wv ((b * 4 * 16) + k) (-1)) wr fl (u1.2.1 0) (u1.2.1 1) lw rot vb rec tk live row cur ser dur wo bts us act rd rs) := hD
          refine lv_iinc (k := 3) (v := nI (k + 1)) hx hb d_C_eraseBlock_33 hl rfl (nI_1 _) (by decide) rfl (fun ls hl => ?_)
          have hl : lv_has ls 4 [(3, .int (nI (k + 1))), (0, .ref (ad 2)), (1, .int (nI b)), (2, .int (nI (b * 4 * 16)))] := hl
          refine lv_goto (tgt := 18) hx hb d_C_eraseBlock_36 (by decide) ?_
          exact ih18 (k + 1) (upd wv ((b * 4 * 16) + k) (-1)) H locs ls (by omega) (by omega) (lv_sub hl [1, 2, 3, 0] rfl) hP hD hS
    exact lp18 _ 0 w H locs ls (Nat.lt_succ_self _) (by omega) (lv_sub hl [2, 3, 1, 0] rfl) hP hD hS
  ·
    refine lv_iconst (v := nI 0) hx hb d_C_eraseBlock_7 (by decide) ?_
    exact W.zret (v := nI 0) hx hb hr (by first | rfl | decide | assumption) (fun t ht hW => ⟨⟨nI 0, (fun i => [w, wr].getD i (fun _ => 0), fun i => [u1.2.1 0, u1.2.1 1].getD i 0, fun i => [].getD i 0), rfl, ⟨by first | exact Or.inl rfl | exact Or.inr rfl, hpw⟩, ⟨by rw [ht]; exact hP, va_K.moved hW.alike hK, hD⟩⟩, hS.F ht⟩) hS.2.2 d_C_eraseBlock_8
set_option maxHeartbeats 4000000 in
set_option maxRecDepth 100000 in
theorem c_C_isFree (l : Launch) (dC : Nat → ClassId) (dI : Nat → Nat → Nat) (ad cd : Nat → Nat) (w wr fl : Nat → Int32) (pw sc : Int32) (lw rot vb : Nat → Int32) (rec tk : Int32) (live row : Nat → Int32) (cur ser dur wo : Int32) (bts : Nat → Int32) (us : Int32) (act : Nat → Int32) (rd rs : Int32) (pa : Nat) (hp : pa < 32) : Met l y_C_isFree w_C_isFree ({ frames := 0, cells := 0, slots := 0, locals := 0 }) (xR (dC, dI) vwCl (xt cd) (xw ad cd w wr fl pw sc lw rot vb rec tk live row cur ser dur wo bts us act rd rs) [.ref (ad 2), .int (nI pa)]) (vp_Si (fun r => (r = 1 ∧ fp w pa) ∨ (r = 0 ∧ ¬ fp w pa))) 0 0 (fun _ => False) := by
  refine Met.ofW (cc := b_C_isFree) (maxL := 4) (ret := (some (.boolean))) (by decide) rfl ?_
  intro P e s m args below meth c0 s₁ B hml hv
  obtain ⟨rfl, hP, hK⟩ := hv
  have hx := B.exec
  have hb := B.bytes
  have hr := B.returns
  have hts := atoms_spec (ws := w_C_isFree) B.pre
  have hown : s.vm.findClass R_C = some m.cls := findClass_of_methodNamed B.named
  have hlocks := B.notSynchronized
  have hl := lv_entry ([.ref (ad 2), .int (nI pa)]) (n := 4) (Nat.le_of_ble_eq_true rfl)
  rw [lg_entry_eq]
  generalize (lg_sl ([.ref (ad 2), .int (nI pa)]) ++ List.replicate (4 - (lg_sl ([.ref (ad 2), .int (nI pa)])).length) Slot.unset).toArray = ls at hl ⊢
  have hl : lv_has ls 4 [(0, .ref (ad 2)), (1, .int (nI pa))] := hl
  refine lv_iload_n hx hb d_C_isFree_0 rfl (lv_at hl 1 rfl) ?_
  refine lv_bipush (v := nI 16) hx hb d_C_isFree_1 (by decide) ?_
  refine lv_imul hx hb d_C_isFree_3 ?_
  refine tp_i (y := nI (pa * 16)) (pk_mul _ _) ?_
  refine lv_istore_n hx hb d_C_isFree_4 rfl hl (by decide) rfl (fun ls hl => ?_)
  have hl : lv_has ls 4 [(2, .int (nI (pa * 16))), (0, .ref (ad 2)), (1, .int (nI pa))] := hl
  refine lv_iload_n hx hb d_C_isFree_5 rfl (lv_at hl 0 rfl) ?_
  refine lv_istore_n hx hb d_C_isFree_6 rfl hl (by decide) rfl (fun ls hl => ?_)
  have hl : lv_has ls 4 [(3, .int (nI (pa * 16))), (2, .int (nI (pa * 16))), (0, .ref (ad 2)), (1, .int (nI pa))] := hl
  have lp7 : ∀ (n : Nat) (k : Nat) (ls : Array Slot), (16 - k) < n → (k ≤ 16) → (∀ i, i < k → w (16 * pa + i) = -1) → lv_has ls 4 [(0, .ref (ad 2)), (1, .int (nI pa)), (2, .int (nI (pa * 16))), (3, .int (nI (pa * 16 + k)))] → W P l e (headSpec w_C_isFree ({ frames := 0, cells := 0, slots := 0, locals := 0 })).room s m (([.ref (ad 2), .int (nI pa)] : List Value).toArray) below meth c0 s.heap [] 0 0 (MQ below (vp_Si (fun r => (r = 1 ∧ fp w pa) ∨ (r = 0 ∧ ¬ fp w pa))) (([.ref (ad 2), .int (nI pa)] : List Value).toArray) s 0 0 (fun _ => False)) (F0 m 7 ls []) := by
    intro n
    induction n with
    | zero => intro k ls hm; intros; omega
    | succ n ih7 =>
      intro k ls hm hk hf hl
      refine lv_iload_n hx hb d_C_isFree_7 rfl (lv_at hl 3 rfl) ?_
      refine lv_iload_n hx hb d_C_isFree_8 rfl (lv_at hl 2 rfl) ?_
      refine lv_bipush (v := nI 16) hx hb d_C_isFree_9 (by decide) ?_
      refine lv_iadd hx hb d_C_isFree_11 ?_
      refine tp_i (y := nI ((pa * 16) + 16)) (nI_add _ _) ?_
      refine lv_icmp_ge (tgt := 33) hx hb d_C_isFree_12 (by decide) (fun c12 => ?_) (fun c12 => ?_)
      ·
        have c12 := cd_ge_t (by omega) (by omega) c12
        refine lv_iconst (v := 1) hx hb d_C_isFree_33 (by decide) ?_
        exact W.zret (v := 1) hx hb hr (by first | rfl | decide | assumption) (fun t ht hW => ⟨1, rfl, Or.inl ⟨rfl, fun i hi => hf i (by omega)⟩, ht⟩) (fun q hq => by cases hq) d_C_isFree_34
      ·
        have c12 := cd_ge_f (by omega) (by omega) c12
        refine lv_aload_n hx hb d_C_isFree_15 rfl (lv_at hl 0 rfl) ?_
        refine va_get (D := (dC, dI)) (ci := 0) (v := .ref (ad 8)) (C := R_C) (T := F_C) (N := 5) hx hb hts (fun w h => List.mem_cons_of_mem _ (in_C w h)) hown hK hP 2 rfl rfl 0 (by decide) (hts (.fieldLink R_C 9 R_C "words" "[I") (List.mem_cons_of_mem _ t_34)) (fun _ h9 => h9) rfl d_C_isFree_16 ?_
        refine lv_iload_n hx hb d_C_isFree_19 rfl (lv_at hl 3 rfl) ?_
        refine va_iald hx hb hK hP 8 3 rfl rfl (vp_in_nI (by omega) (by decide)) d_C_isFree_20 ?_
        refine tp_i (y := w (pa * 16 + k)) (by rw [nI_clamp (by omega)]) ?_
        refine lv_iconst (v := (-1)) hx hb d_C_isFree_21 (by decide) ?_
        refine lv_icmp_eq (tgt := 27) hx hb d_C_isFree_22 (by decide) (fun c22 => ?_) (fun c22 => ?_)
        ·
          refine lv_iinc (k := 3) (v := nI ((pa * 16 + k) + 1)) hx hb d_C_isFree_27 hl rfl (nI_1 _) (by decide) rfl (fun ls hl => ?_)
          have hl : lv_has ls 4 [(3, .int (nI ((pa * 16 + k) + 1))), (0, .ref (ad 2)), (1, .int (nI pa)), (2, .int (nI (pa * 16)))] := hl
          refine lv_goto (tgt := 7) hx hb d_C_isFree_30 (by decide) ?_
          exact ih7 (k + 1) ls (by omega) (by omega) (lt_s hf (by rw [Nat.mul_comm 16 pa]; exact c22)) (lv_sub hl [1, 2, 3, 0] rfl)
        ·
          refine lv_iconst (v := 0) hx hb d_C_isFree_25 (by decide) ?_
          exact W.zret (v := 0) hx hb hr (by first | rfl | decide | assumption) (fun t ht hW => ⟨0, rfl, Or.inr ⟨rfl, fun h => c22 (by have := h k (by omega); rw [Nat.mul_comm 16 pa] at this; exact this)⟩, ht⟩) (fun q hq => by cases hq) d_C_isFree_26
  exact lp7 _ 0 ls (Nat.lt_succ_self _) (by omega) (fun i hi => absurd hi (Nat.not_lt_zero i)) (lv_sub hl [2, 3, 1, 0] rfl)
set_option maxHeartbeats 4000000 in
set_option maxRecDepth 100000 in
theorem c_R_sumOf_w (l : Launch) (dC : Nat → ClassId) (dI : Nat → Nat → Nat) (ad cd : Nat → Nat) (w wr fl : Nat → Int32) (pw sc : Int32) (lw rot vb : Nat → Int32) (rec tk : Int32) (live row : Nat → Int32) (cur ser dur wo : Int32) (bts : Nat → Int32) (us : Int32) (act : Nat → Int32) (rd rs : Int32) (st n : Nat) (hn : st + n ≤ 512) : Met l y_R_sumOf w_R_sumOf ({ frames := 0, cells := 0, slots := 0, locals := 0 }) (xR (dC, dI) vwCl (xt cd) (xw ad cd w wr fl pw sc lw rot vb rec tk live row cur ser dur wo bts us act rd rs) [.ref (ad 8), .int (nI st), .int (nI n)]) (vp_Si (fun r => True)) 0 0 (fun _ => False) := by
  refine Met.ofW (cc := b_R_sumOf) (maxL := 5) (ret := (some (.int))) (by decide) rfl ?_
  intro P e s m args below meth c0 s₁ B hml hv
  obtain ⟨rfl, hP, hK⟩ := hv
  have hx := B.exec
  have hb := B.bytes
  have hr := B.returns
  have hts := atoms_spec (ws := w_R_sumOf) B.pre
  have hown : s.vm.findClass R_R = some m.cls := findClass_of_methodNamed B.named
  have hlocks := B.notSynchronized
  have hl := lv_entry ([.ref (ad 8), .int (nI st), .int (nI n)]) (n := 5) (Nat.le_of_ble_eq_true rfl)
  rw [lg_entry_eq]
  generalize (lg_sl ([.ref (ad 8), .int (nI st), .int (nI n)]) ++ List.replicate (5 - (lg_sl ([.ref (ad 8), .int (nI st), .int (nI n)])).length) Slot.unset).toArray = ls at hl ⊢
  have hl : lv_has ls 5 [(0, .ref (ad 8)), (1, .int (nI st)), (2, .int (nI n))] := hl
  refine lv_sipush (v := nI 7989) hx hb d_R_sumOf_0 (by decide) ?_
  refine lv_istore_n hx hb d_R_sumOf_3 rfl hl (by decide) rfl (fun ls hl => ?_)
  have hl : lv_has ls 5 [(3, .int (nI 7989)), (0, .ref (ad 8)), (1, .int (nI st)), (2, .int (nI n))] := hl
  refine lv_iload_n hx hb d_R_sumOf_4 rfl (lv_at hl 2 rfl) ?_
  refine lv_istore hx hb d_R_sumOf_5 hl (by decide) rfl (fun ls hl => ?_)
  have hl : lv_has ls 5 [(4, .int (nI st)), (3, .int (nI 7989)), (0, .ref (ad 8)), (1, .int (nI st)), (2, .int (nI n))] := hl
  have lp7 : ∀ (n : Nat) (k : Nat) (x : Int32) (ls : Array Slot), (n - k) < n → (k ≤ n) → lv_has ls 5 [(0, .ref (ad 8)), (1, .int (nI st)), (2, .int (nI n)), (3, .int x), (4, .int (nI (st + k)))] → W P l e (headSpec w_R_sumOf ({ frames := 0, cells := 0, slots := 0, locals := 0 })).room s m (([.ref (ad 8), .int (nI st), .int (nI n)] : List Value).toArray) below meth c0 s.heap [] 0 0 (MQ below (vp_Si (fun r => True)) (([.ref (ad 8), .int (nI st), .int (nI n)] : List Value).toArray) s 0 0 (fun _ => False)) (F0 m 7 ls []) := by
    intro n
    induction n with
    | zero => intro k x ls hm; intros; omega
    | succ n ih7 =>
      intro k x ls hm hk hl
      refine lv_iload hx hb d_R_sumOf_7 (lv_at hl 4 rfl) ?_
      refine lv_iload_n hx hb d_R_sumOf_9 rfl (lv_at hl 1 rfl) ?_
      refine lv_iload_n hx hb d_R_sumOf_10 rfl (lv_at hl 2 rfl) ?_
      refine lv_iadd hx hb d_R_sumOf_11 ?_
      refine tp_i (y := nI (st + n)) (nI_add _ _) ?_
      refine lv_icmp_ge (tgt := 42) hx hb d_R_sumOf_12 (by decide) (fun c12 => ?_) (fun c12 => ?_)
      ·
        have c12 := cd_ge_t (by omega) (by omega) c12
        refine lv_iload_n hx hb d_R_sumOf_42 rfl (lv_at hl 3 rfl) ?_
        exact W.iret (v := x) hx hb hr (fun t ht hW => ⟨x, rfl, by first | rfl | trivial | omega, ht⟩) (fun q hq => by cases hq) d_R_sumOf_43
      ·
        have c12 := cd_ge_f (by omega) (by omega) c12
        refine lv_iload_n hx hb d_R_sumOf_15 rfl (lv_at hl 3 rfl) ?_
        refine lv_aload_n hx hb d_R_sumOf_16 rfl (lv_at hl 0 rfl) ?_
        refine lv_iload hx hb d_R_sumOf_17 (lv_at hl 4 rfl) ?_
        refine va_iald hx hb hK hP 8 3 rfl rfl (vp_in_nI (by omega) (by decide)) d_R_sumOf_19 ?_
        refine tp_i (y := w (st + k)) (by rw [nI_clamp (by omega)]) ?_
        refine lv_ixor hx hb d_R_sumOf_20 ?_
        refine lv_istore_n hx hb d_R_sumOf_21 rfl hl (by decide) rfl (fun ls hl => ?_)
        have hl : lv_has ls 5 [(3, .int (x ^^^ (w (st + k)))), (0, .ref (ad 8)), (1, .int (nI st)), (2, .int (nI n)), (4, .int (nI (st + k)))] := hl
        refine lv_iload_n hx hb d_R_sumOf_22 rfl (lv_at hl 0 rfl) ?_
        refine lv_iconst (v := 5) hx hb d_R_sumOf_23 (by decide) ?_
        refine lv_ishl hx hb d_R_sumOf_24 ?_
        refine lv_iload_n hx hb d_R_sumOf_25 rfl (lv_at hl 0 rfl) ?_
        refine lv_bipush (v := 27) hx hb d_R_sumOf_26 (by decide) ?_
        refine lv_iushr hx hb d_R_sumOf_28 rfl ?_
        refine lv_ior hx hb d_R_sumOf_29 ?_
        refine lv_istore_n hx hb d_R_sumOf_30 rfl hl (by decide) rfl (fun ls hl => ?_)
        have hl : lv_has ls 5 [(3, .int (((x ^^^ (w (st + k))) <<< (5 &&& 31)) ||| (((x ^^^ (w (st + k))).toUInt32 >>> (Int32.toUInt32 27 &&& Int32.toUInt32 31)).toInt32))), (0, .ref (ad 8)), (1, .int (nI st)), (2, .int (nI n)), (4, .int (nI (st + k)))] := hl
        refine lv_iload_n hx hb d_R_sumOf_31 rfl (lv_at hl 0 rfl) ?_
        refine lv_ldc (v := nI 40503) hx hb hown (hts (.constant R_R 219 40503) (List.mem_cons_of_mem _ t_172)) d_R_sumOf_32 ?_
        refine lv_iadd hx hb d_R_sumOf_34 ?_
        refine lv_istore_n hx hb d_R_sumOf_35 rfl hl (by decide) rfl (fun ls hl => ?_)
        have hl : lv_has ls 5 [(3, .int ((((x ^^^ (w (st + k))) <<< (5 &&& 31)) ||| (((x ^^^ (w (st + k))).toUInt32 >>> (Int32.toUInt32 27 &&& Int32.toUInt32 31)).toInt32)) + (nI 40503))), (0, .ref (ad 8)), (1, .int (nI st)), (2, .int (nI n)), (4, .int (nI (st + k)))] := hl
        refine lv_iinc (k := 4) (v := nI ((st + k) + 1)) hx hb d_R_sumOf_36 hl rfl (nI_1 _) (by decide) rfl (fun ls hl => ?_)
        have hl : lv_has ls 5 [(4, .int (nI ((st + k) + 1))), (3, .int ((((x ^^^ (w (st + k))) <<< (5 &&& 31)) ||| (((x ^^^ (w (st + k))).toUInt32 >>> (Int32.toUInt32 27 &&& Int32.toUInt32 31)).toInt32)) + (nI 40503))), (0, .ref (ad 8)), (1, .int (nI st)), (2, .int (nI n))] := hl
        refine lv_goto (tgt := 7) hx hb d_R_sumOf_39 (by decide) ?_
        exact ih7 (k + 1) ((((x ^^^ (w (st + k))) <<< (5 &&& 31)) ||| (((x ^^^ (w (st + k))).toUInt32 >>> (Int32.toUInt32 27 &&& Int32.toUInt32 31)).toInt32)) + (nI 40503)) ls (by omega) (by omega) (lv_sub hl [2, 3, 4, 1, 0] rfl)
  exact lp7 _ 0 (nI 7989) ls (Nat.lt_succ_self _) (by omega) (lv_sub hl [2, 3, 4, 1, 0] rfl)
set_option maxHeartbeats 4000000 in
set_option maxRecDepth 100000 in
theorem c_R_sumOf_g (l : Launch) (dC : Nat → ClassId) (dI : Nat → Nat → Nat) (ad cd : Nat → Nat) (w wr fl : Nat → Int32) (pw sc : Int32) (lw rot vb : Nat → Int32) (rec tk : Int32) (live row : Nat → Int32) (cur ser dur wo : Int32) (bts : Nat → Int32) (us : Int32) (act : Nat → Int32) (rd rs : Int32) (st n : Nat) (hn : st + n ≤ 192) : Met l y_R_sumOf w_R_sumOf ({ frames := 0, cells := 0, slots := 0, locals := 0 }) (xR (dC, dI) vwCl (xt cd) (xw ad cd w wr fl pw sc lw rot vb rec tk live row cur ser dur wo bts us act rd rs) [.ref (ad 11), .int (nI st), .int (nI n)]) (vp_Si (fun r => True)) 0 0 (fun _ => False) := by
  refine Met.ofW (cc := b_R_sumOf) (maxL := 5) (ret := (some (.int))) (by decide) rfl ?_
  intro P e s m args below meth c0 s₁ B hml hv
  obtain ⟨rfl, hP, hK⟩ := hv
  have hx := B.exec
  have hb := B.bytes
  have hr := B.returns
  have hts := atoms_spec (ws := w_R_sumOf) B.pre
  have hown : s.vm.findClass R_R = some m.cls := findClass_of_methodNamed B.named
  have hlocks := B.notSynchronized
  have hl := lv_entry ([.ref (ad 11), .int (nI st), .int (nI n)]) (n := 5) (Nat.le_of_ble_eq_true rfl)
  rw [lg_entry_eq]
  generalize (lg_sl ([.ref (ad 11), .int (nI st), .int (nI n)]) ++ List.replicate (5 - (lg_sl ([.ref (ad 11), .int (nI st), .int (nI n)])).length) Slot.unset).toArray = ls at hl ⊢
  have hl : lv_has ls 5 [(0, .ref (ad 11)), (1, .int (nI st)), (2, .int (nI n))] := hl
  refine lv_sipush (v := nI 7989) hx hb d_R_sumOf_0 (by decide) ?_
  refine lv_istore_n hx hb d_R_sumOf_3 rfl hl (by decide) rfl (fun ls hl => ?_)
  have hl : lv_has ls 5 [(3, .int (nI 7989)), (0, .ref (ad 11)), (1, .int (nI st)), (2, .int (nI n))] := hl
  refine lv_iload_n hx hb d_R_sumOf_4 rfl (lv_at hl 2 rfl) ?_
  refine lv_istore hx hb d_R_sumOf_5 hl (by decide) rfl (fun ls hl => ?_)
  have hl : lv_has ls 5 [(4, .int (nI st)), (3, .int (nI 7989)), (0, .ref (ad 11)), (1, .int (nI st)), (2, .int (nI n))] := hl
  have lp7 : ∀ (n : Nat) (k : Nat) (x : Int32) (ls : Array Slot), (n - k) < n → (k ≤ n) → lv_has ls 5 [(0, .ref (ad 11)), (1, .int (nI st)), (2, .int (nI n)), (3, .int x), (4, .int (nI (st + k)))] → W P l e (headSpec w_R_sumOf ({ frames := 0, cells := 0, slots := 0, locals := 0 })).room s m (([.ref (ad 11), .int (nI st), .int (nI n)] : List Value).toArray) below meth c0 s.heap [] 0 0 (MQ below (vp_Si (fun r => True)) (([.ref (ad 11), .int (nI st), .int (nI n)] : List Value).toArray) s 0 0 (fun _ => False)) (F0 m 7 ls []) := by
    intro n
    induction n with
    | zero => intro k x ls hm; intros; omega
    | succ n ih7 =>
      intro k x ls hm hk hl
      refine lv_iload hx hb d_R_sumOf_7 (lv_at hl 4 rfl) ?_
      refine lv_iload_n hx hb d_R_sumOf_9 rfl (lv_at hl 1 rfl) ?_
      refine lv_iload_n hx hb d_R_sumOf_10 rfl (lv_at hl 2 rfl) ?_
      refine lv_iadd hx hb d_R_sumOf_11 ?_
      refine tp_i (y := nI (st + n)) (nI_add _ _) ?_
      refine lv_icmp_ge (tgt := 42) hx hb d_R_sumOf_12 (by decide) (fun c12 => ?_) (fun c12 => ?_)
      ·
        have c12 := cd_ge_t (by omega) (by omega) c12
        refine lv_iload_n hx hb d_R_sumOf_42 rfl (lv_at hl 3 rfl) ?_
        exact W.iret (v := x) hx hb hr (fun t ht hW => ⟨x, rfl, by first | rfl | trivial | omega, ht⟩) (fun q hq => by cases hq) d_R_sumOf_43
      ·
        have c12 := cd_ge_f (by omega) (by omega) c12
        refine lv_iload_n hx hb d_R_sumOf_15 rfl (lv_at hl 3 rfl) ?_
        refine lv_aload_n hx hb d_R_sumOf_16 rfl (lv_at hl 0 rfl) ?_
        refine lv_iload hx hb d_R_sumOf_17 (lv_at hl 4 rfl) ?_
        refine va_iald hx hb hK hP 11 6 rfl rfl (vp_in_nI (by omega) (by decide)) d_R_sumOf_19 ?_
        refine tp_i (y := lw (st + k)) (by rw [nI_clamp (by omega)]) ?_
        refine lv_ixor hx hb d_R_sumOf_20 ?_
        refine lv_istore_n hx hb d_R_sumOf_21 rfl hl (by decide) rfl (fun ls hl => ?_)
        have hl : lv_has ls 5 [(3, .int (x ^^^ (lw (st + k)))), (0, .ref (ad 11)), (1, .int (nI st)), (2, .int (nI n)), (4, .int (nI (st + k)))] := hl
        refine lv_iload_n hx hb d_R_sumOf_22 rfl (lv_at hl 0 rfl) ?_
        refine lv_iconst (v := 5) hx hb d_R_sumOf_23 (by decide) ?_
        refine lv_ishl hx hb d_R_sumOf_24 ?_
        refine lv_iload_n hx hb d_R_sumOf_25 rfl (lv_at hl 0 rfl) ?_
        refine lv_bipush (v := 27) hx hb d_R_sumOf_26 (by decide) ?_
        refine lv_iushr hx hb d_R_sumOf_28 rfl ?_
        refine lv_ior hx hb d_R_sumOf_29 ?_
        refine lv_istore_n hx hb d_R_sumOf_30 rfl hl (by decide) rfl (fun ls hl => ?_)
        have hl : lv_has ls 5 [(3, .int (((x ^^^ (lw (st + k))) <<< (5 &&& 31)) ||| (((x ^^^ (lw (st + k))).toUInt32 >>> (Int32.toUInt32 27 &&& Int32.toUInt32 31)).toInt32))), (0, .ref (ad 11)), (1, .int (nI st)), (2, .int (nI n)), (4, .int (nI (st + k)))] := hl
        refine lv_iload_n hx hb d_R_sumOf_31 rfl (lv_at hl 0 rfl) ?_
        refine lv_ldc (v := nI 40503) hx hb hown (hts (.constant R_R 219 40503) (List.mem_cons_of_mem _ t_172)) d_R_sumOf_32 ?_
        refine lv_iadd hx hb d_R_sumOf_34 ?_
        refine lv_istore_n hx hb d_R_sumOf_35 rfl hl (by decide) rfl (fun ls hl => ?_)
        have hl : lv_has ls 5 [(3, .int ((((x ^^^ (lw (st + k))) <<< (5 &&& 31)) ||| (((x ^^^ (lw (st + k))).toUInt32 >>> (Int32.toUInt32 27 &&& Int32.toUInt32 31)).toInt32)) + (nI 40503))), (0, .ref (ad 11)), (1, .int (nI st)), (2, .int (nI n)), (4, .int (nI (st + k)))] := hl
        refine lv_iinc (k := 4) (v := nI ((st + k) + 1)) hx hb d_R_sumOf_36 hl rfl (nI_1 _) (by decide) rfl (fun ls hl => ?_)
        have hl : lv_has ls 5 [(4, .int (nI ((st + k) + 1))), (3, .int ((((x ^^^ (lw (st + k))) <<< (5 &&& 31)) ||| (((x ^^^ (lw (st + k))).toUInt32 >>> (Int32.toUInt32 27 &&& Int32.toUInt32 31)).toInt32)) + (nI 40503))), (0, .ref (ad 11)), (1, .int (nI st)), (2, .int (nI n))] := hl
        refine lv_goto (tgt := 7) hx hb d_R_sumOf_39 (by decide) ?_
        exact ih7 (k + 1) ((((x ^^^ (lw (st + k))) <<< (5 &&& 31)) ||| (((x ^^^ (lw (st + k))).toUInt32 >>> (Int32.toUInt32 27 &&& Int32.toUInt32 31)).toInt32)) + (nI 40503)) ls (by omega) (by omega) (lv_sub hl [2, 3, 4, 1, 0] rfl)
  exact lp7 _ 0 (nI 7989) ls (Nat.lt_succ_self _) (by omega) (lv_sub hl [2, 3, 4, 1, 0] rfl)
set_option maxHeartbeats 4000000 in
set_option maxRecDepth 100000 in
theorem c_R_sumOf_r (l : Launch) (dC : Nat → ClassId) (dI : Nat → Nat → Nat) (ad cd : Nat → Nat) (w wr fl : Nat → Int32) (pw sc : Int32) (lw rot vb : Nat → Int32) (rec tk : Int32) (live row : Nat → Int32) (cur ser dur wo : Int32) (bts : Nat → Int32) (us : Int32) (act : Nat → Int32) (rd rs : Int32) (st n : Nat) (hn : st + n ≤ 16) : Met l y_R_sumOf w_R_sumOf ({ frames := 0, cells := 0, slots := 0, locals := 0 }) (xR (dC, dI) vwCl (xt cd) (xw ad cd w wr fl pw sc lw rot vb rec tk live row cur ser dur wo bts us act rd rs) [.ref (ad 7), .int (nI st), .int (nI n)]) (vp_Si (fun r => True)) 0 0 (fun _ => False) := by
  refine Met.ofW (cc := b_R_sumOf) (maxL := 5) (ret := (some (.int))) (by decide) rfl ?_
  intro P e s m args below meth c0 s₁ B hml hv
  obtain ⟨rfl, hP, hK⟩ := hv
  have hx := B.exec
  have hb := B.bytes
  have hr := B.returns
  have hts := atoms_spec (ws := w_R_sumOf) B.pre
  have hown : s.vm.findClass R_R = some m.cls := findClass_of_methodNamed B.named
  have hlocks := B.notSynchronized
  have hl := lv_entry ([.ref (ad 7), .int (nI st), .int (nI n)]) (n := 5) (Nat.le_of_ble_eq_true rfl)
  rw [lg_entry_eq]
  generalize (lg_sl ([.ref (ad 7), .int (nI st), .int (nI n)]) ++ List.replicate (5 - (lg_sl ([.ref (ad 7), .int (nI st), .int (nI n)])).length) Slot.unset).toArray = ls at hl ⊢
  have hl : lv_has ls 5 [(0, .ref (ad 7)), (1, .int (nI st)), (2, .int (nI n))] := hl
  refine lv_sipush (v := nI 7989) hx hb d_R_sumOf_0 (by decide) ?_
  refine lv_istore_n hx hb d_R_sumOf_3 rfl hl (by decide) rfl (fun ls hl => ?_)
  have hl : lv_has ls 5 [(3, .int (nI 7989)), (0, .ref (ad 7)), (1, .int (nI st)), (2, .int (nI n))] := hl
  refine lv_iload_n hx hb d_R_sumOf_4 rfl (lv_at hl 2 rfl) ?_
  refine lv_istore hx hb d_R_sumOf_5 hl (by decide) rfl (fun ls hl => ?_)
  have hl : lv_has ls 5 [(4, .int (nI st)), (3, .int (nI 7989)), (0, .ref (ad 7)), (1, .int (nI st)), (2, .int (nI n))] := hl
  have lp7 : ∀ (n : Nat) (k : Nat) (x : Int32) (ls : Array Slot), (n - k) < n → (k ≤ n) → lv_has ls 5 [(0, .ref (ad 7)), (1, .int (nI st)), (2, .int (nI n)), (3, .int x), (4, .int (nI (st + k)))] → W P l e (headSpec w_R_sumOf ({ frames := 0, cells := 0, slots := 0, locals := 0 })).room s m (([.ref (ad 7), .int (nI st), .int (nI n)] : List Value).toArray) below meth c0 s.heap [] 0 0 (MQ below (vp_Si (fun r => True)) (([.ref (ad 7), .int (nI st), .int (nI n)] : List Value).toArray) s 0 0 (fun _ => False)) (F0 m 7 ls []) := by
    intro n
    induction n with
    | zero => intro k x ls hm; intros; omega
    | succ n ih7 =>
      intro k x ls hm hk hl
      refine lv_iload hx hb d_R_sumOf_7 (lv_at hl 4 rfl) ?_
      refine lv_iload_n hx hb d_R_sumOf_9 rfl (lv_at hl 1 rfl) ?_
      refine lv_iload_n hx hb d_R_sumOf_10 rfl (lv_at hl 2 rfl) ?_
      refine lv_iadd hx hb d_R_sumOf_11 ?_
      refine tp_i (y := nI (st + n)) (nI_add _ _) ?_
      refine lv_icmp_ge (tgt := 42) hx hb d_R_sumOf_12 (by decide) (fun c12 => ?_) (fun c12 => ?_)
      ·
        have c12 := cd_ge_t (by omega) (by omega) c12
        refine lv_iload_n hx hb d_R_sumOf_42 rfl (lv_at hl 3 rfl) ?_
        exact W.iret (v := x) hx hb hr (fun t ht hW => ⟨x, rfl, by first | rfl | trivial | omega, ht⟩) (fun q hq => by cases hq) d_R_sumOf_43
      ·
        have c12 := cd_ge_f (by omega) (by omega) c12
        refine lv_iload_n hx hb d_R_sumOf_15 rfl (lv_at hl 3 rfl) ?_
        refine lv_aload_n hx hb d_R_sumOf_16 rfl (lv_at hl 0 rfl) ?_
        refine lv_iload hx hb d_R_sumOf_17 (lv_at hl 4 rfl) ?_
        refine va_iald hx hb hK hP 7 2 rfl rfl (vp_in_nI (by omega) (by decide)) d_R_sumOf_19 ?_
        refine tp_i (y := row (st + k)) (by rw [nI_clamp (by omega)]) ?_
        refine lv_ixor hx hb d_R_sumOf_20 ?_
        refine lv_istore_n hx hb d_R_sumOf_21 rfl hl (by decide) rfl (fun ls hl => ?_)
        have hl : lv_has ls 5 [(3, .int (x ^^^ (row (st + k)))), (0, .ref (ad 7)), (1, .int (nI st)), (2, .int (nI n)), (4, .int (nI (st + k)))] := hl
        refine lv_iload_n hx hb d_R_sumOf_22 rfl (lv_at hl 0 rfl) ?_
        refine lv_iconst (v := 5) hx hb d_R_sumOf_23 (by decide) ?_
        refine lv_ishl hx hb d_R_sumOf_24 ?_
        refine lv_iload_n hx hb d_R_sumOf_25 rfl (lv_at hl 0 rfl) ?_
        refine lv_bipush (v := 27) hx hb d_R_sumOf_26 (by decide) ?_
        refine lv_iushr hx hb d_R_sumOf_28 rfl ?_
        refine lv_ior hx hb d_R_sumOf_29 ?_
        refine lv_istore_n hx hb d_R_sumOf_30 rfl hl (by decide) rfl (fun ls hl => ?_)
        have hl : lv_has ls 5 [(3, .int (((x ^^^ (row (st + k))) <<< (5 &&& 31)) ||| (((x ^^^ (row (st + k))).toUInt32 >>> (Int32.toUInt32 27 &&& Int32.toUInt32 31)).toInt32))), (0, .ref (ad 7)), (1, .int (nI st)), (2, .int (nI n)), (4, .int (nI (st + k)))] := hl
        refine lv_iload_n hx hb d_R_sumOf_31 rfl (lv_at hl 0 rfl) ?_
        refine lv_ldc (v := nI 40503) hx hb hown (hts (.constant R_R 219 40503) (List.mem_cons_of_mem _ t_172)) d_R_sumOf_32 ?_
        refine lv_iadd hx hb d_R_sumOf_34 ?_
        refine lv_istore_n hx hb d_R_sumOf_35 rfl hl (by decide) rfl (fun ls hl => ?_)
        have hl : lv_has ls 5 [(3, .int ((((x ^^^ (row (st + k))) <<< (5 &&& 31)) ||| (((x ^^^ (row (st + k))).toUInt32 >>> (Int32.toUInt32 27 &&& Int32.toUInt32 31)).toInt32)) + (nI 40503))), (0, .ref (ad 7)), (1, .int (nI st)), (2, .int (nI n)), (4, .int (nI (st + k)))] := hl
        refine lv_iinc (k := 4) (v := nI ((st + k) + 1)) hx hb d_R_sumOf_36 hl rfl (nI_1 _) (by decide) rfl (fun ls hl => ?_)
        have hl : lv_has ls 5 [(4, .int (nI ((st + k) + 1))), (3, .int ((((x ^^^ (row (st + k))) <<< (5 &&& 31)) ||| (((x ^^^ (row (st + k))).toUInt32 >>> (Int32.toUInt32 27 &&& Int32.toUInt32 31)).toInt32)) + (nI 40503))), (0, .ref (ad 7)), (1, .int (nI st)), (2, .int (nI n))] := hl
        refine lv_goto (tgt := 7) hx hb d_R_sumOf_39 (by decide) ?_
        exact ih7 (k + 1) ((((x ^^^ (row (st + k))) <<< (5 &&& 31)) ||| (((x ^^^ (row (st + k))).toUInt32 >>> (Int32.toUInt32 27 &&& Int32.toUInt32 31)).toInt32)) + (nI 40503)) ls (by omega) (by omega) (lv_sub hl [2, 3, 4, 1, 0] rfl)
  exact lp7 _ 0 (nI 7989) ls (Nat.lt_succ_self _) (by omega) (lv_sub hl [2, 3, 4, 1, 0] rfl)
end
