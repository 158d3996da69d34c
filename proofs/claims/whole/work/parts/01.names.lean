-- begun from kit/laws (PART A) and the printed names
-- ===== PART A: goes FIRST, ahead of the names: the tables' words, and 'selects' of the private methods out of them =====
/-- a private method of a class that the tables say can be made, by its rows of tables_1 -/
def lw_okq (q : MethodName × Nat) : Prop := (q.1.cls ≠ "java/lang/invoke/MethodHandle" ∧ q.1.cls ≠ "java/lang/invoke/VarHandle") ∧ Cond.instantiable q.1.cls q.2 ∈ tables_1 ∧ Cond.privateMethod q.1 ∈ tables_1 ∧ Cond.instanceMethod q.1 ∈ tables_1
theorem lw_p0 : lw_okq (⟨"ButterChurn$Tape", "kindAt", "(I)I"⟩, 6) := ⟨⟨by decide +kernel, by decide +kernel⟩, List.mem_of_getElem? (i := 75) (by decide +kernel), List.mem_of_getElem? (i := 304) (by decide +kernel), List.mem_of_getElem? (i := 305) (by decide +kernel)⟩
theorem lw_p1 : lw_okq (⟨"ButterChurn$Tape", "byteAt", "(I)I"⟩, 6) := ⟨⟨by decide +kernel, by decide +kernel⟩, List.mem_of_getElem? (i := 75) (by decide +kernel), List.mem_of_getElem? (i := 308) (by decide +kernel), List.mem_of_getElem? (i := 309) (by decide +kernel)⟩
theorem lw_p2 : lw_okq (⟨"ButterChurn$Tape", "takeNumber", "()V"⟩, 6) := ⟨⟨by decide +kernel, by decide +kernel⟩, List.mem_of_getElem? (i := 75) (by decide +kernel), List.mem_of_getElem? (i := 312) (by decide +kernel), List.mem_of_getElem? (i := 313) (by decide +kernel)⟩
theorem lw_p3 : lw_okq (⟨"ButterChurn$Reading", "takeToken", "()V"⟩, 8) := ⟨⟨by decide +kernel, by decide +kernel⟩, List.mem_of_getElem? (i := 69) (by decide +kernel), List.mem_of_getElem? (i := 316) (by decide +kernel), List.mem_of_getElem? (i := 317) (by decide +kernel)⟩
theorem lw_p4 : lw_okq (⟨"ButterChurn$Reading", "refuse", "(I)V"⟩, 8) := ⟨⟨by decide +kernel, by decide +kernel⟩, List.mem_of_getElem? (i := 69) (by decide +kernel), List.mem_of_getElem? (i := 320) (by decide +kernel), List.mem_of_getElem? (i := 321) (by decide +kernel)⟩
theorem lw_p5 : lw_okq (⟨"ButterChurn$Reading", "beginLine", "()V"⟩, 8) := ⟨⟨by decide +kernel, by decide +kernel⟩, List.mem_of_getElem? (i := 69) (by decide +kernel), List.mem_of_getElem? (i := 326) (by decide +kernel), List.mem_of_getElem? (i := 327) (by decide +kernel)⟩
theorem lw_p6 : lw_okq (⟨"ButterChurn$Reading", "lineNamed", "()I"⟩, 8) := ⟨⟨by decide +kernel, by decide +kernel⟩, List.mem_of_getElem? (i := 69) (by decide +kernel), List.mem_of_getElem? (i := 330) (by decide +kernel), List.mem_of_getElem? (i := 331) (by decide +kernel)⟩
theorem lw_p7 : lw_okq (⟨"ButterChurn$Reading", "takeNumber", "()V"⟩, 8) := ⟨⟨by decide +kernel, by decide +kernel⟩, List.mem_of_getElem? (i := 69) (by decide +kernel), List.mem_of_getElem? (i := 398) (by decide +kernel), List.mem_of_getElem? (i := 399) (by decide +kernel)⟩
theorem lw_p8 : lw_okq (⟨"ButterChurn$Reading", "endLine", "()V"⟩, 8) := ⟨⟨by decide +kernel, by decide +kernel⟩, List.mem_of_getElem? (i := 69) (by decide +kernel), List.mem_of_getElem? (i := 413) (by decide +kernel), List.mem_of_getElem? (i := 414) (by decide +kernel)⟩
theorem lw_p9 : lw_okq (⟨"ButterChurn", "turnChurn", "(II)I"⟩, 12) := ⟨⟨by decide +kernel, by decide +kernel⟩, List.mem_of_getElem? (i := 18) (by decide +kernel), List.mem_of_getElem? (i := 474) (by decide +kernel), List.mem_of_getElem? (i := 475) (by decide +kernel)⟩
theorem lw_p10 : lw_okq (⟨"ButterChurn$Churn", "beatIn", "(LButterChurn$Told;I)V"⟩, 7) := ⟨⟨by decide +kernel, by decide +kernel⟩, List.mem_of_getElem? (i := 136) (by decide +kernel), List.mem_of_getElem? (i := 490) (by decide +kernel), List.mem_of_getElem? (i := 491) (by decide +kernel)⟩
theorem lw_p11 : lw_okq (⟨"ButterChurn$Churn", "rate", "(LButterChurn$Told;I)I"⟩, 7) := ⟨⟨by decide +kernel, by decide +kernel⟩, List.mem_of_getElem? (i := 136) (by decide +kernel), List.mem_of_getElem? (i := 497) (by decide +kernel), List.mem_of_getElem? (i := 498) (by decide +kernel)⟩
theorem lw_p12 : lw_okq (⟨"ButterChurn$Churn", "joinDrops", "(I)V"⟩, 7) := ⟨⟨by decide +kernel, by decide +kernel⟩, List.mem_of_getElem? (i := 136) (by decide +kernel), List.mem_of_getElem? (i := 512) (by decide +kernel), List.mem_of_getElem? (i := 513) (by decide +kernel)⟩
theorem lw_p13 : lw_okq (⟨"ButterChurn$Churn", "breakIfDue", "(LButterChurn$Told;)V"⟩, 7) := ⟨⟨by decide +kernel, by decide +kernel⟩, List.mem_of_getElem? (i := 136) (by decide +kernel), List.mem_of_getElem? (i := 516) (by decide +kernel), List.mem_of_getElem? (i := 517) (by decide +kernel)⟩
theorem lw_p14 : lw_okq (⟨"ButterChurn$Churn", "outcome", "(LButterChurn$Told;)I"⟩, 7) := ⟨⟨by decide +kernel, by decide +kernel⟩, List.mem_of_getElem? (i := 136) (by decide +kernel), List.mem_of_getElem? (i := 548) (by decide +kernel), List.mem_of_getElem? (i := 549) (by decide +kernel)⟩
theorem lw_p15 : lw_okq (⟨"ButterChurn", "isBadRun", "(III)Z"⟩, 12) := ⟨⟨by decide +kernel, by decide +kernel⟩, List.mem_of_getElem? (i := 18) (by decide +kernel), List.mem_of_getElem? (i := 568) (by decide +kernel), List.mem_of_getElem? (i := 569) (by decide +kernel)⟩
def lw_privs_1 : List (MethodName × Nat) := [(⟨"ButterChurn$Tape", "kindAt", "(I)I"⟩, 6), (⟨"ButterChurn$Tape", "byteAt", "(I)I"⟩, 6), (⟨"ButterChurn$Tape", "takeNumber", "()V"⟩, 6), (⟨"ButterChurn$Reading", "takeToken", "()V"⟩, 8), (⟨"ButterChurn$Reading", "refuse", "(I)V"⟩, 8), (⟨"ButterChurn$Reading", "beginLine", "()V"⟩, 8), (⟨"ButterChurn$Reading", "lineNamed", "()I"⟩, 8), (⟨"ButterChurn$Reading", "takeNumber", "()V"⟩, 8), (⟨"ButterChurn$Reading", "endLine", "()V"⟩, 8), (⟨"ButterChurn", "turnChurn", "(II)I"⟩, 12), (⟨"ButterChurn$Churn", "beatIn", "(LButterChurn$Told;I)V"⟩, 7), (⟨"ButterChurn$Churn", "rate", "(LButterChurn$Told;I)I"⟩, 7), (⟨"ButterChurn$Churn", "joinDrops", "(I)V"⟩, 7), (⟨"ButterChurn$Churn", "breakIfDue", "(LButterChurn$Told;)V"⟩, 7), (⟨"ButterChurn$Churn", "outcome", "(LButterChurn$Told;)I"⟩, 7), (⟨"ButterChurn", "isBadRun", "(III)Z"⟩, 12)]
theorem lw_r1 : ∀ q ∈ lw_privs_1, lw_okq q := List.forall_mem_cons.mpr ⟨lw_p0, List.forall_mem_cons.mpr ⟨lw_p1, List.forall_mem_cons.mpr ⟨lw_p2, List.forall_mem_cons.mpr ⟨lw_p3, List.forall_mem_cons.mpr ⟨lw_p4, List.forall_mem_cons.mpr ⟨lw_p5, List.forall_mem_cons.mpr ⟨lw_p6, List.forall_mem_cons.mpr ⟨lw_p7, List.forall_mem_cons.mpr ⟨lw_p8, List.forall_mem_cons.mpr ⟨lw_p9, List.forall_mem_cons.mpr ⟨lw_p10, List.forall_mem_cons.mpr ⟨lw_p11, List.forall_mem_cons.mpr ⟨lw_p12, List.forall_mem_cons.mpr ⟨lw_p13, List.forall_mem_cons.mpr ⟨lw_p14, List.forall_mem_cons.mpr ⟨lw_p15, fun _ h => absurd h List.not_mem_nil⟩⟩⟩⟩⟩⟩⟩⟩⟩⟩⟩⟩⟩⟩⟩⟩
theorem lw_p16 : lw_okq (⟨"ButterChurn", "turnTrialTillCome", "(II)I"⟩, 12) := ⟨⟨by decide +kernel, by decide +kernel⟩, List.mem_of_getElem? (i := 18) (by decide +kernel), List.mem_of_getElem? (i := 576) (by decide +kernel), List.mem_of_getElem? (i := 577) (by decide +kernel)⟩
theorem lw_p17 : lw_okq (⟨"ButterChurn", "findBest", "(I)V"⟩, 12) := ⟨⟨by decide +kernel, by decide +kernel⟩, List.mem_of_getElem? (i := 18) (by decide +kernel), List.mem_of_getElem? (i := 586) (by decide +kernel), List.mem_of_getElem? (i := 587) (by decide +kernel)⟩
theorem lw_p18 : lw_okq (⟨"ButterChurn", "isAsSeen", "(II)Z"⟩, 12) := ⟨⟨by decide +kernel, by decide +kernel⟩, List.mem_of_getElem? (i := 18) (by decide +kernel), List.mem_of_getElem? (i := 626) (by decide +kernel), List.mem_of_getElem? (i := 627) (by decide +kernel)⟩
theorem lw_p19 : lw_okq (⟨"ButterChurn", "tryDeed", "(I)V"⟩, 12) := ⟨⟨by decide +kernel, by decide +kernel⟩, List.mem_of_getElem? (i := 18) (by decide +kernel), List.mem_of_getElem? (i := 634) (by decide +kernel), List.mem_of_getElem? (i := 635) (by decide +kernel)⟩
theorem lw_p20 : lw_okq (⟨"ButterChurn", "workWater", "(II)V"⟩, 12) := ⟨⟨by decide +kernel, by decide +kernel⟩, List.mem_of_getElem? (i := 18) (by decide +kernel), List.mem_of_getElem? (i := 683) (by decide +kernel), List.mem_of_getElem? (i := 684) (by decide +kernel)⟩
theorem lw_p21 : lw_okq (⟨"ButterChurn", "imageAt", "(I)LButterChurn$Image;"⟩, 12) := ⟨⟨by decide +kernel, by decide +kernel⟩, List.mem_of_getElem? (i := 18) (by decide +kernel), List.mem_of_getElem? (i := 713) (by decide +kernel), List.mem_of_getElem? (i := 714) (by decide +kernel)⟩
theorem lw_p22 : lw_okq (⟨"ButterChurn", "sheetAt", "(I)LButterChurn$Sheet;"⟩, 12) := ⟨⟨by decide +kernel, by decide +kernel⟩, List.mem_of_getElem? (i := 18) (by decide +kernel), List.mem_of_getElem? (i := 725) (by decide +kernel), List.mem_of_getElem? (i := 726) (by decide +kernel)⟩
theorem lw_p23 : lw_okq (⟨"ButterChurn", "imagesThere", "()I"⟩, 12) := ⟨⟨by decide +kernel, by decide +kernel⟩, List.mem_of_getElem? (i := 18) (by decide +kernel), List.mem_of_getElem? (i := 770) (by decide +kernel), List.mem_of_getElem? (i := 771) (by decide +kernel)⟩
theorem lw_p24 : lw_okq (⟨"ButterChurnModel", "step", "()V"⟩, 35) := ⟨⟨by decide +kernel, by decide +kernel⟩, List.mem_of_getElem? (i := 778) (by decide +kernel), List.mem_of_getElem? (i := 906) (by decide +kernel), List.mem_of_getElem? (i := 907) (by decide +kernel)⟩
theorem lw_p25 : lw_okq (⟨"ButterChurnModel", "byteAt", "(I)I"⟩, 35) := ⟨⟨by decide +kernel, by decide +kernel⟩, List.mem_of_getElem? (i := 778) (by decide +kernel), List.mem_of_getElem? (i := 910) (by decide +kernel), List.mem_of_getElem? (i := 911) (by decide +kernel)⟩
theorem lw_p26 : lw_okq (⟨"ButterChurnModel", "fails", "(I)V"⟩, 35) := ⟨⟨by decide +kernel, by decide +kernel⟩, List.mem_of_getElem? (i := 778) (by decide +kernel), List.mem_of_getElem? (i := 918) (by decide +kernel), List.mem_of_getElem? (i := 919) (by decide +kernel)⟩
theorem lw_p27 : lw_okq (⟨"ButterChurnModel", "readLine", "()V"⟩, 35) := ⟨⟨by decide +kernel, by decide +kernel⟩, List.mem_of_getElem? (i := 778) (by decide +kernel), List.mem_of_getElem? (i := 922) (by decide +kernel), List.mem_of_getElem? (i := 923) (by decide +kernel)⟩
theorem lw_p28 : lw_okq (⟨"ButterChurnModel", "nameHere", "()I"⟩, 35) := ⟨⟨by decide +kernel, by decide +kernel⟩, List.mem_of_getElem? (i := 778) (by decide +kernel), List.mem_of_getElem? (i := 926) (by decide +kernel), List.mem_of_getElem? (i := 927) (by decide +kernel)⟩
theorem lw_p29 : lw_okq (⟨"ButterChurnModel", "number", "(II)I"⟩, 35) := ⟨⟨by decide +kernel, by decide +kernel⟩, List.mem_of_getElem? (i := 778) (by decide +kernel), List.mem_of_getElem? (i := 930) (by decide +kernel), List.mem_of_getElem? (i := 931) (by decide +kernel)⟩
theorem lw_p30 : lw_okq (⟨"ButterChurnModel", "fills", "(III)V"⟩, 35) := ⟨⟨by decide +kernel, by decide +kernel⟩, List.mem_of_getElem? (i := 778) (by decide +kernel), List.mem_of_getElem? (i := 934) (by decide +kernel), List.mem_of_getElem? (i := 935) (by decide +kernel)⟩
theorem lw_p31 : lw_okq (⟨"ButterChurnModel", "isCow", "(I)Z"⟩, 35) := ⟨⟨by decide +kernel, by decide +kernel⟩, List.mem_of_getElem? (i := 778) (by decide +kernel), List.mem_of_getElem? (i := 955) (by decide +kernel), List.mem_of_getElem? (i := 956) (by decide +kernel)⟩
def lw_privs_2 : List (MethodName × Nat) := [(⟨"ButterChurn", "turnTrialTillCome", "(II)I"⟩, 12), (⟨"ButterChurn", "findBest", "(I)V"⟩, 12), (⟨"ButterChurn", "isAsSeen", "(II)Z"⟩, 12), (⟨"ButterChurn", "tryDeed", "(I)V"⟩, 12), (⟨"ButterChurn", "workWater", "(II)V"⟩, 12), (⟨"ButterChurn", "imageAt", "(I)LButterChurn$Image;"⟩, 12), (⟨"ButterChurn", "sheetAt", "(I)LButterChurn$Sheet;"⟩, 12), (⟨"ButterChurn", "imagesThere", "()I"⟩, 12), (⟨"ButterChurnModel", "step", "()V"⟩, 35), (⟨"ButterChurnModel", "byteAt", "(I)I"⟩, 35), (⟨"ButterChurnModel", "fails", "(I)V"⟩, 35), (⟨"ButterChurnModel", "readLine", "()V"⟩, 35), (⟨"ButterChurnModel", "nameHere", "()I"⟩, 35), (⟨"ButterChurnModel", "number", "(II)I"⟩, 35), (⟨"ButterChurnModel", "fills", "(III)V"⟩, 35), (⟨"ButterChurnModel", "isCow", "(I)Z"⟩, 35)]
theorem lw_r2 : ∀ q ∈ lw_privs_2, lw_okq q := List.forall_mem_cons.mpr ⟨lw_p16, List.forall_mem_cons.mpr ⟨lw_p17, List.forall_mem_cons.mpr ⟨lw_p18, List.forall_mem_cons.mpr ⟨lw_p19, List.forall_mem_cons.mpr ⟨lw_p20, List.forall_mem_cons.mpr ⟨lw_p21, List.forall_mem_cons.mpr ⟨lw_p22, List.forall_mem_cons.mpr ⟨lw_p23, List.forall_mem_cons.mpr ⟨lw_p24, List.forall_mem_cons.mpr ⟨lw_p25, List.forall_mem_cons.mpr ⟨lw_p26, List.forall_mem_cons.mpr ⟨lw_p27, List.forall_mem_cons.mpr ⟨lw_p28, List.forall_mem_cons.mpr ⟨lw_p29, List.forall_mem_cons.mpr ⟨lw_p30, List.forall_mem_cons.mpr ⟨lw_p31, fun _ h => absurd h List.not_mem_nil⟩⟩⟩⟩⟩⟩⟩⟩⟩⟩⟩⟩⟩⟩⟩⟩
theorem lw_p32 : lw_okq (⟨"ButterChurnModel", "areCows", "(I)Z"⟩, 35) := ⟨⟨by decide +kernel, by decide +kernel⟩, List.mem_of_getElem? (i := 778) (by decide +kernel), List.mem_of_getElem? (i := 968) (by decide +kernel), List.mem_of_getElem? (i := 969) (by decide +kernel)⟩
theorem lw_p33 : lw_okq (⟨"ButterChurnModel", "awake", "()V"⟩, 35) := ⟨⟨by decide +kernel, by decide +kernel⟩, List.mem_of_getElem? (i := 778) (by decide +kernel), List.mem_of_getElem? (i := 976) (by decide +kernel), List.mem_of_getElem? (i := 977) (by decide +kernel)⟩
theorem lw_p34 : lw_okq (⟨"ButterChurnModel", "turns", "(II)Z"⟩, 35) := ⟨⟨by decide +kernel, by decide +kernel⟩, List.mem_of_getElem? (i := 778) (by decide +kernel), List.mem_of_getElem? (i := 987) (by decide +kernel), List.mem_of_getElem? (i := 988) (by decide +kernel)⟩
theorem lw_p35 : lw_okq (⟨"ButterChurnModel", "isSwollen", "(I)Z"⟩, 35) := ⟨⟨by decide +kernel, by decide +kernel⟩, List.mem_of_getElem? (i := 778) (by decide +kernel), List.mem_of_getElem? (i := 991) (by decide +kernel), List.mem_of_getElem? (i := 992) (by decide +kernel)⟩
theorem lw_p36 : lw_okq (⟨"ButterChurnModel", "joins", "(II)V"⟩, 35) := ⟨⟨by decide +kernel, by decide +kernel⟩, List.mem_of_getElem? (i := 778) (by decide +kernel), List.mem_of_getElem? (i := 995) (by decide +kernel), List.mem_of_getElem? (i := 996) (by decide +kernel)⟩
theorem lw_p37 : lw_okq (⟨"ButterChurnModel", "hardness", "(I)I"⟩, 35) := ⟨⟨by decide +kernel, by decide +kernel⟩, List.mem_of_getElem? (i := 778) (by decide +kernel), List.mem_of_getElem? (i := 999) (by decide +kernel), List.mem_of_getElem? (i := 1000) (by decide +kernel)⟩
theorem lw_p38 : lw_okq (⟨"ButterChurnModel", "fatFrom", "(II)I"⟩, 35) := ⟨⟨by decide +kernel, by decide +kernel⟩, List.mem_of_getElem? (i := 778) (by decide +kernel), List.mem_of_getElem? (i := 1003) (by decide +kernel), List.mem_of_getElem? (i := 1004) (by decide +kernel)⟩
theorem lw_p39 : lw_okq (⟨"ButterChurnModel", "halves", "(I)V"⟩, 35) := ⟨⟨by decide +kernel, by decide +kernel⟩, List.mem_of_getElem? (i := 778) (by decide +kernel), List.mem_of_getElem? (i := 1015) (by decide +kernel), List.mem_of_getElem? (i := 1016) (by decide +kernel)⟩
theorem lw_p40 : lw_okq (⟨"ButterChurnModel", "told", "(II)I"⟩, 35) := ⟨⟨by decide +kernel, by decide +kernel⟩, List.mem_of_getElem? (i := 778) (by decide +kernel), List.mem_of_getElem? (i := 1023) (by decide +kernel), List.mem_of_getElem? (i := 1024) (by decide +kernel)⟩
theorem lw_p41 : lw_okq (⟨"ButterChurnModel", "left", "(I)I"⟩, 35) := ⟨⟨by decide +kernel, by decide +kernel⟩, List.mem_of_getElem? (i := 778) (by decide +kernel), List.mem_of_getElem? (i := 1027) (by decide +kernel), List.mem_of_getElem? (i := 1028) (by decide +kernel)⟩
theorem lw_p42 : lw_okq (⟨"ButterChurnModel", "which", "(I)I"⟩, 35) := ⟨⟨by decide +kernel, by decide +kernel⟩, List.mem_of_getElem? (i := 778) (by decide +kernel), List.mem_of_getElem? (i := 1031) (by decide +kernel), List.mem_of_getElem? (i := 1032) (by decide +kernel)⟩
theorem lw_p43 : lw_okq (⟨"ButterChurnModel", "isOver", "(I)Z"⟩, 35) := ⟨⟨by decide +kernel, by decide +kernel⟩, List.mem_of_getElem? (i := 778) (by decide +kernel), List.mem_of_getElem? (i := 1035) (by decide +kernel), List.mem_of_getElem? (i := 1036) (by decide +kernel)⟩
theorem lw_p44 : lw_okq (⟨"ButterChurnModel", "tillCome", "(II)I"⟩, 35) := ⟨⟨by decide +kernel, by decide +kernel⟩, List.mem_of_getElem? (i := 778) (by decide +kernel), List.mem_of_getElem? (i := 1052) (by decide +kernel), List.mem_of_getElem? (i := 1053) (by decide +kernel)⟩
theorem lw_p45 : lw_okq (⟨"ButterChurnModel", "layPlan", "(I)Z"⟩, 35) := ⟨⟨by decide +kernel, by decide +kernel⟩, List.mem_of_getElem? (i := 778) (by decide +kernel), List.mem_of_getElem? (i := 1061) (by decide +kernel), List.mem_of_getElem? (i := 1062) (by decide +kernel)⟩
theorem lw_p46 : lw_okq (⟨"ButterChurnModel", "isSo", "(II)Z"⟩, 35) := ⟨⟨by decide +kernel, by decide +kernel⟩, List.mem_of_getElem? (i := 778) (by decide +kernel), List.mem_of_getElem? (i := 1085) (by decide +kernel), List.mem_of_getElem? (i := 1086) (by decide +kernel)⟩
theorem lw_p47 : lw_okq (⟨"ButterChurnModel", "copies", "(II)V"⟩, 35) := ⟨⟨by decide +kernel, by decide +kernel⟩, List.mem_of_getElem? (i := 778) (by decide +kernel), List.mem_of_getElem? (i := 1093) (by decide +kernel), List.mem_of_getElem? (i := 1094) (by decide +kernel)⟩
def lw_privs_3 : List (MethodName × Nat) := [(⟨"ButterChurnModel", "areCows", "(I)Z"⟩, 35), (⟨"ButterChurnModel", "awake", "()V"⟩, 35), (⟨"ButterChurnModel", "turns", "(II)Z"⟩, 35), (⟨"ButterChurnModel", "isSwollen", "(I)Z"⟩, 35), (⟨"ButterChurnModel", "joins", "(II)V"⟩, 35), (⟨"ButterChurnModel", "hardness", "(I)I"⟩, 35), (⟨"ButterChurnModel", "fatFrom", "(II)I"⟩, 35), (⟨"ButterChurnModel", "halves", "(I)V"⟩, 35), (⟨"ButterChurnModel", "told", "(II)I"⟩, 35), (⟨"ButterChurnModel", "left", "(I)I"⟩, 35), (⟨"ButterChurnModel", "which", "(I)I"⟩, 35), (⟨"ButterChurnModel", "isOver", "(I)Z"⟩, 35), (⟨"ButterChurnModel", "tillCome", "(II)I"⟩, 35), (⟨"ButterChurnModel", "layPlan", "(I)Z"⟩, 35), (⟨"ButterChurnModel", "isSo", "(II)Z"⟩, 35), (⟨"ButterChurnModel", "copies", "(II)V"⟩, 35)]
theorem lw_r3 : ∀ q ∈ lw_privs_3, lw_okq q := List.forall_mem_cons.mpr ⟨lw_p32, List.forall_mem_cons.mpr ⟨lw_p33, List.forall_mem_cons.mpr ⟨lw_p34, List.forall_mem_cons.mpr ⟨lw_p35, List.forall_mem_cons.mpr ⟨lw_p36, List.forall_mem_cons.mpr ⟨lw_p37, List.forall_mem_cons.mpr ⟨lw_p38, List.forall_mem_cons.mpr ⟨lw_p39, List.forall_mem_cons.mpr ⟨lw_p40, List.forall_mem_cons.mpr ⟨lw_p41, List.forall_mem_cons.mpr ⟨lw_p42, List.forall_mem_cons.mpr ⟨lw_p43, List.forall_mem_cons.mpr ⟨lw_p44, List.forall_mem_cons.mpr ⟨lw_p45, List.forall_mem_cons.mpr ⟨lw_p46, List.forall_mem_cons.mpr ⟨lw_p47, fun _ h => absurd h List.not_mem_nil⟩⟩⟩⟩⟩⟩⟩⟩⟩⟩⟩⟩⟩⟩⟩⟩
theorem lw_p48 : lw_okq (⟨"ButterChurnModel", "layWet", "(II)Z"⟩, 35) := ⟨⟨by decide +kernel, by decide +kernel⟩, List.mem_of_getElem? (i := 778) (by decide +kernel), List.mem_of_getElem? (i := 1129) (by decide +kernel), List.mem_of_getElem? (i := 1130) (by decide +kernel)⟩
def lw_privs_4 : List (MethodName × Nat) := [(⟨"ButterChurnModel", "layWet", "(II)Z"⟩, 35)]
theorem lw_r4 : ∀ q ∈ lw_privs_4, lw_okq q := List.forall_mem_cons.mpr ⟨lw_p48, fun _ h => absurd h List.not_mem_nil⟩
def lw_privs : List (MethodName × Nat) := lw_privs_1 ++ (lw_privs_2 ++ (lw_privs_3 ++ (lw_privs_4)))
def lw_tbl : List Cond := k2_sels lw_privs ++ tables_1
theorem lw_privs_ok : ∀ q ∈ lw_privs, lw_okq q := by
  show ∀ q ∈ lw_privs_1 ++ (lw_privs_2 ++ (lw_privs_3 ++ (lw_privs_4))), lw_okq q
  exact List.forall_mem_append.mpr ⟨lw_r1, List.forall_mem_append.mpr ⟨lw_r2, List.forall_mem_append.mpr ⟨lw_r3, lw_r4⟩⟩⟩
def RX0 : String := "ButterChurn$Best"
def TX0 : u_T := fun k => match k with
  | 0 => ("ButterChurn$Best", "there", "Z", false)
  | 1 => ("ButterChurn$Best", "warmth", "I", false)
  | 2 => ("ButterChurn$Best", "pace", "I", false)
  | 3 => ("ButterChurn$Best", "turns", "I", false)
  | _ => ("ButterChurn$Best", "left", "I", false)
def tyX0 : Nat → FieldType := fun k => match k with
  | 0 => .boolean
  | 1 => .int
  | 2 => .int
  | 3 => .int
  | _ => .int
abbrev wsX00 : List Cond := u_ws RX0 TX0 5
theorem nmX0 : ∀ a, a < 5 → ∀ b, b < 5 → a ≠ b → (TX0 a).2.1 ≠ (TX0 b).2.1 := by decide +kernel
theorem tyX0_ok : ∀ k, k < 5 → parseFieldDescriptor (TX0 k).2.2.1 = some (tyX0 k) := by decide +kernel
abbrev cX0_init : ByteArray := prog_2_method_1_code
def yX0_init : MethodName := ⟨RX0, "<init>", "()V"⟩
abbrev cX0_offer : ByteArray := prog_2_method_2_code
def yX0_offer : MethodName := ⟨RX0, "offer", "(IIII)V"⟩
abbrev cX0_tell : ByteArray := prog_2_method_3_code
def yX0_tell : MethodName := ⟨RX0, "tell", "(I)I"⟩
def RX1 : String := "ButterChurn$Churn"
def TX1 : u_T := fun k => match k with
  | 0 => ("ButterChurn$Churn", "drops", "[I", true)
  | 1 => ("ButterChurn$Churn", "litres", "I", false)
  | 2 => ("ButterChurn$Churn", "warmth", "I", false)
  | 3 => ("ButterChurn$Churn", "hard", "I", false)
  | 4 => ("ButterChurn$Churn", "air", "I", false)
  | 5 => ("ButterChurn$Churn", "turns", "I", false)
  | _ => ("ButterChurn$Churn", "come", "I", false)
def tyX1 : Nat → FieldType := fun k => match k with
  | 0 => .array .int
  | 1 => .int
  | 2 => .int
  | 3 => .int
  | 4 => .int
  | 5 => .int
  | _ => .int
abbrev wsX10 : List Cond := u_ws RX1 TX1 7
theorem nmX1 : ∀ a, a < 7 → ∀ b, b < 7 → a ≠ b → (TX1 a).2.1 ≠ (TX1 b).2.1 := by decide +kernel
theorem tyX1_ok : ∀ k, k < 7 → parseFieldDescriptor (TX1 k).2.2.1 = some (tyX1 k) := by decide +kernel
abbrev cX1_init : ByteArray := prog_3_method_1_code
def yX1_init : MethodName := ⟨RX1, "<init>", "()V"⟩
abbrev cX1_fillWith : ByteArray := prog_3_method_2_code
def yX1_fillWith : MethodName := ⟨RX1, "fillWith", "(LButterChurn$Told;II)V"⟩
abbrev cX1_becomeLike : ByteArray := prog_3_method_3_code
def yX1_becomeLike : MethodName := ⟨RX1, "becomeLike", "(LButterChurn$Churn;)V"⟩
abbrev cX1_halve : ByteArray := prog_3_method_4_code
def yX1_halve : MethodName := ⟨RX1, "halve", "()V"⟩
abbrev cX1_hasCome : ByteArray := prog_3_method_5_code
def yX1_hasCome : MethodName := ⟨RX1, "hasCome", "()Z"⟩
abbrev cX1_isSwollen : ByteArray := prog_3_method_6_code
def yX1_isSwollen : MethodName := ⟨RX1, "isSwollen", "(LButterChurn$Told;)Z"⟩
abbrev cX1_hardness : ByteArray := prog_3_method_7_code
def yX1_hardness : MethodName := ⟨RX1, "hardness", "(LButterChurn$Told;)I"⟩
abbrev cX1_turnOnce : ByteArray := prog_3_method_8_code
def yX1_turnOnce : MethodName := ⟨RX1, "turnOnce", "(LButterChurn$Told;I)Z"⟩
abbrev cX1_beatIn : ByteArray := prog_3_method_9_code
def yX1_beatIn : MethodName := ⟨RX1, "beatIn", "(LButterChurn$Told;I)V"⟩
abbrev cX1_rate : ByteArray := prog_3_method_10_code
def yX1_rate : MethodName := ⟨RX1, "rate", "(LButterChurn$Told;I)I"⟩
abbrev cX1_joinDrops : ByteArray := prog_3_method_11_code
def yX1_joinDrops : MethodName := ⟨RX1, "joinDrops", "(I)V"⟩
abbrev cX1_breakIfDue : ByteArray := prog_3_method_12_code
def yX1_breakIfDue : MethodName := ⟨RX1, "breakIfDue", "(LButterChurn$Told;)V"⟩
abbrev cX1_fatFrom : ByteArray := prog_3_method_13_code
def yX1_fatFrom : MethodName := ⟨RX1, "fatFrom", "(I)I"⟩
abbrev cX1_left : ByteArray := prog_3_method_14_code
def yX1_left : MethodName := ⟨RX1, "left", "(LButterChurn$Told;)I"⟩
abbrev cX1_isMostlyGreatest : ByteArray := prog_3_method_15_code
def yX1_isMostlyGreatest : MethodName := ⟨RX1, "isMostlyGreatest", "()Z"⟩
abbrev cX1_dropsOf : ByteArray := prog_3_method_16_code
def yX1_dropsOf : MethodName := ⟨RX1, "dropsOf", "(I)I"⟩
abbrev cX1_tell : ByteArray := prog_3_method_17_code
def yX1_tell : MethodName := ⟨RX1, "tell", "(LButterChurn$Told;I)I"⟩
abbrev cX1_outcome : ByteArray := prog_3_method_18_code
def yX1_outcome : MethodName := ⟨RX1, "outcome", "(LButterChurn$Told;)I"⟩
def RX2 : String := "ButterChurn$Image"
def TX2 : u_T := fun k => match k with
  | 0 => ("ButterChurn$Image", "churn", "LButterChurn$Churn;", true)
  | _ => ("ButterChurn$Image", "there", "Z", false)
def tyX2 : Nat → FieldType := fun k => match k with
  | 0 => .object "ButterChurn$Churn"
  | _ => .boolean
abbrev wsX20 : List Cond := u_ws RX2 TX2 2
theorem nmX2 : ∀ a, a < 2 → ∀ b, b < 2 → a ≠ b → (TX2 a).2.1 ≠ (TX2 b).2.1 := by decide +kernel
theorem tyX2_ok : ∀ k, k < 2 → parseFieldDescriptor (TX2 k).2.2.1 = some (tyX2 k) := by decide +kernel
abbrev cX2_init : ByteArray := prog_4_method_1_code
def yX2_init : MethodName := ⟨RX2, "<init>", "()V"⟩
def RX3 : String := "ButterChurn$Reading"
def TX3 : u_T := fun k => match k with
  | 0 => ("ButterChurn$Reading", "tape", "LButterChurn$Tape;", true)
  | 1 => ("ButterChurn$Reading", "draft", "LButterChurn$Told;", true)
  | 2 => ("ButterChurn$Reading", "line", "I", false)
  | 3 => ("ButterChurn$Reading", "numbersRead", "I", false)
  | 4 => ("ButterChurn$Reading", "linesRead", "I", false)
  | 5 => ("ButterChurn$Reading", "linesMet", "I", false)
  | 6 => ("ButterChurn$Reading", "fault", "I", false)
  | _ => ("ButterChurn$Reading", "faultPlace", "I", false)
def tyX3 : Nat → FieldType := fun k => match k with
  | 0 => .object "ButterChurn$Tape"
  | 1 => .object "ButterChurn$Told"
  | 2 => .int
  | 3 => .int
  | 4 => .int
  | 5 => .int
  | 6 => .int
  | _ => .int
abbrev wsX30 : List Cond := u_ws RX3 TX3 8
theorem nmX3 : ∀ a, a < 8 → ∀ b, b < 8 → a ≠ b → (TX3 a).2.1 ≠ (TX3 b).2.1 := by decide +kernel
theorem tyX3_ok : ∀ k, k < 8 → parseFieldDescriptor (TX3 k).2.2.1 = some (tyX3 k) := by decide +kernel
abbrev cX3_init : ByteArray := prog_5_method_1_code
def yX3_init : MethodName := ⟨RX3, "<init>", "()V"⟩
abbrev cX3_readAll : ByteArray := prog_5_method_2_code
def yX3_readAll : MethodName := ⟨RX3, "readAll", "()I"⟩
abbrev cX3_takeToken : ByteArray := prog_5_method_3_code
def yX3_takeToken : MethodName := ⟨RX3, "takeToken", "()V"⟩
abbrev cX3_beginLine : ByteArray := prog_5_method_4_code
def yX3_beginLine : MethodName := ⟨RX3, "beginLine", "()V"⟩
abbrev cX3_lineNamed : ByteArray := prog_5_method_5_code
def yX3_lineNamed : MethodName := ⟨RX3, "lineNamed", "()I"⟩
abbrev cX3_takeNumber : ByteArray := prog_5_method_6_code
def yX3_takeNumber : MethodName := ⟨RX3, "takeNumber", "()V"⟩
abbrev cX3_endLine : ByteArray := prog_5_method_7_code
def yX3_endLine : MethodName := ⟨RX3, "endLine", "()V"⟩
abbrev cX3_refuse : ByteArray := prog_5_method_8_code
def yX3_refuse : MethodName := ⟨RX3, "refuse", "(I)V"⟩
def RX4 : String := "ButterChurn$Sheet"
def TX4 : u_T := fun k => match k with
  | 0 => ("ButterChurn$Sheet", "cells", "[I", true)
  | 1 => ("ButterChurn$Sheet", "lane", "I", false)
  | _ => ("ButterChurn$Sheet", "size", "I", false)
def tyX4 : Nat → FieldType := fun k => match k with
  | 0 => .array .int
  | 1 => .int
  | _ => .int
abbrev wsX40 : List Cond := u_ws RX4 TX4 3
theorem nmX4 : ∀ a, a < 3 → ∀ b, b < 3 → a ≠ b → (TX4 a).2.1 ≠ (TX4 b).2.1 := by decide +kernel
theorem tyX4_ok : ∀ k, k < 3 → parseFieldDescriptor (TX4 k).2.2.1 = some (tyX4 k) := by decide +kernel
abbrev cX4_init : ByteArray := prog_6_method_1_code
def yX4_init : MethodName := ⟨RX4, "<init>", "()V"⟩
abbrev cX4_isThere : ByteArray := prog_6_method_2_code
def yX4_isThere : MethodName := ⟨RX4, "isThere", "()Z"⟩
abbrev cX4_renew : ByteArray := prog_6_method_3_code
def yX4_renew : MethodName := ⟨RX4, "renew", "(II)V"⟩
abbrev cX4_put : ByteArray := prog_6_method_4_code
def yX4_put : MethodName := ⟨RX4, "put", "(II)I"⟩
abbrev cX4_cellAt : ByteArray := prog_6_method_5_code
def yX4_cellAt : MethodName := ⟨RX4, "cellAt", "(I)I"⟩
abbrev cX4_pairsWhole : ByteArray := prog_6_method_6_code
def yX4_pairsWhole : MethodName := ⟨RX4, "pairsWhole", "(III)I"⟩
abbrev cX4_faultAs : ByteArray := prog_6_method_7_code
def yX4_faultAs : MethodName := ⟨RX4, "faultAs", "(I)I"⟩
def RX5 : String := "ButterChurn$Tape"
def TX5 : u_T := fun k => match k with
  | 0 => ("ButterChurn$Tape", "bytes", "[B", true)
  | 1 => ("ButterChurn$Tape", "length", "I", false)
  | 2 => ("ButterChurn$Tape", "kind", "I", false)
  | 3 => ("ButterChurn$Tape", "place", "I", false)
  | 4 => ("ButterChurn$Tape", "behind", "I", false)
  | _ => ("ButterChurn$Tape", "number", "I", false)
def tyX5 : Nat → FieldType := fun k => match k with
  | 0 => .array .byte
  | 1 => .int
  | 2 => .int
  | 3 => .int
  | 4 => .int
  | _ => .int
abbrev wsX50 : List Cond := u_ws RX5 TX5 6
theorem nmX5 : ∀ a, a < 6 → ∀ b, b < 6 → a ≠ b → (TX5 a).2.1 ≠ (TX5 b).2.1 := by decide +kernel
theorem tyX5_ok : ∀ k, k < 6 → parseFieldDescriptor (TX5 k).2.2.1 = some (tyX5 k) := by decide +kernel
abbrev cX5_init : ByteArray := prog_7_method_1_code
def yX5_init : MethodName := ⟨RX5, "<init>", "()V"⟩
abbrev cX5_put : ByteArray := prog_7_method_2_code
def yX5_put : MethodName := ⟨RX5, "put", "(J)Z"⟩
abbrev cX5_byteAt : ByteArray := prog_7_method_3_code
def yX5_byteAt : MethodName := ⟨RX5, "byteAt", "(I)I"⟩
abbrev cX5_rewind : ByteArray := prog_7_method_4_code
def yX5_rewind : MethodName := ⟨RX5, "rewind", "()V"⟩
abbrev cX5_advance : ByteArray := prog_7_method_5_code
def yX5_advance : MethodName := ⟨RX5, "advance", "()V"⟩
abbrev cX5_takeNumber : ByteArray := prog_7_method_6_code
def yX5_takeNumber : MethodName := ⟨RX5, "takeNumber", "()V"⟩
abbrev cX5_kindAt : ByteArray := prog_7_method_7_code
def yX5_kindAt : MethodName := ⟨RX5, "kindAt", "(I)I"⟩
abbrev cX5_spells : ByteArray := prog_7_method_8_code
def yX5_spells : MethodName := ⟨RX5, "spells", "(Ljava/lang/String;)Z"⟩
def RX6 : String := "ButterChurn$Told"
def TX6 : u_T := fun k => match k with
  | 0 => ("ButterChurn$Told", "rules", "[I", true)
  | 1 => ("ButterChurn$Told", "litreDrops", "[I", true)
  | 2 => ("ButterChurn$Told", "litres", "[I", true)
  | 3 => ("ButterChurn$Told", "hards", "[I", true)
  | _ => ("ButterChurn$Told", "cows", "I", false)
def tyX6 : Nat → FieldType := fun k => match k with
  | 0 => .array .int
  | 1 => .array .int
  | 2 => .array .int
  | 3 => .array .int
  | _ => .int
abbrev wsX60 : List Cond := u_ws RX6 TX6 5
theorem nmX6 : ∀ a, a < 5 → ∀ b, b < 5 → a ≠ b → (TX6 a).2.1 ≠ (TX6 b).2.1 := by decide +kernel
theorem tyX6_ok : ∀ k, k < 5 → parseFieldDescriptor (TX6 k).2.2.1 = some (tyX6 k) := by decide +kernel
abbrev cX6_init : ByteArray := prog_8_method_1_code
def yX6_init : MethodName := ⟨RX6, "<init>", "()V"⟩
abbrev cX6_becomeFirst : ByteArray := prog_8_method_2_code
def yX6_becomeFirst : MethodName := ⟨RX6, "becomeFirst", "()V"⟩
abbrev cX6_becomeLike : ByteArray := prog_8_method_3_code
def yX6_becomeLike : MethodName := ⟨RX6, "becomeLike", "(LButterChurn$Told;)V"⟩
abbrev cX6_hasAllCows : ByteArray := prog_8_method_4_code
def yX6_hasAllCows : MethodName := ⟨RX6, "hasAllCows", "()Z"⟩
abbrev cX6_put : ByteArray := prog_8_method_5_code
def yX6_put : MethodName := ⟨RX6, "put", "(II)V"⟩
abbrev cX6_base : ByteArray := prog_8_method_6_code
def yX6_base : MethodName := ⟨RX6, "base", "()I"⟩
abbrev cX6_isGood : ByteArray := prog_8_method_7_code
def yX6_isGood : MethodName := ⟨RX6, "isGood", "(I)Z"⟩
abbrev cX6_hasCow : ByteArray := prog_8_method_8_code
def yX6_hasCow : MethodName := ⟨RX6, "hasCow", "(I)Z"⟩
abbrev cX6_allCows : ByteArray := prog_8_method_9_code
def yX6_allCows : MethodName := ⟨RX6, "allCows", "()I"⟩
abbrev cX6_hasCows : ByteArray := prog_8_method_10_code
def yX6_hasCows : MethodName := ⟨RX6, "hasCows", "(I)Z"⟩
abbrev cX6_litresOf : ByteArray := prog_8_method_11_code
def yX6_litresOf : MethodName := ⟨RX6, "litresOf", "(I)I"⟩
abbrev cX6_hardOf : ByteArray := prog_8_method_12_code
def yX6_hardOf : MethodName := ⟨RX6, "hardOf", "(I)I"⟩
def RX7 : String := "ButterChurn"
def TX7 : u_T := fun k => match k with
  | 0 => ("ButterChurn", "told", "LButterChurn$Told;", true)
  | 1 => ("ButterChurn", "reading", "LButterChurn$Reading;", true)
  | 2 => ("ButterChurn", "churn", "LButterChurn$Churn;", true)
  | 3 => ("ButterChurn", "trial", "LButterChurn$Churn;", true)
  | 4 => ("ButterChurn", "best", "LButterChurn$Best;", true)
  | 5 => ("ButterChurn", "images", "[LButterChurn$Image;", true)
  | 6 => ("ButterChurn", "sheets", "[LButterChurn$Sheet;", true)
  | 7 => ("ButterChurn", "seenCows", "[I", true)
  | 8 => ("ButterChurn", "seenTurns", "[I", true)
  | 9 => ("ButterChurn", "water", "[I", true)
  | 10 => ("ButterChurn", "seen", "I", false)
  | _ => ("ButterChurn", "tornFault", "I", false)
def tyX7 : Nat → FieldType := fun k => match k with
  | 0 => .object "ButterChurn$Told"
  | 1 => .object "ButterChurn$Reading"
  | 2 => .object "ButterChurn$Churn"
  | 3 => .object "ButterChurn$Churn"
  | 4 => .object "ButterChurn$Best"
  | 5 => .array (.object "ButterChurn$Image")
  | 6 => .array (.object "ButterChurn$Sheet")
  | 7 => .array .int
  | 8 => .array .int
  | 9 => .array .int
  | 10 => .int
  | _ => .int
abbrev wsX70 : List Cond := u_ws RX7 TX7 12
theorem nmX7 : ∀ a, a < 12 → ∀ b, b < 12 → a ≠ b → (TX7 a).2.1 ≠ (TX7 b).2.1 := by decide +kernel
theorem tyX7_ok : ∀ k, k < 12 → parseFieldDescriptor (TX7 k).2.2.1 = some (tyX7 k) := by decide +kernel
abbrev cX7_init : ByteArray := prog_1_method_1_code
def yX7_init : MethodName := ⟨RX7, "<init>", "()V"⟩
abbrev cX7_feed : ByteArray := prog_1_method_2_code
def yX7_feed : MethodName := ⟨RX7, "feed", "(J)I"⟩
abbrev cX7_end : ByteArray := prog_1_method_3_code
def yX7_end : MethodName := ⟨RX7, "end", "(I)I"⟩
abbrev cX7_dairy : ByteArray := prog_1_method_4_code
def yX7_dairy : MethodName := ⟨RX7, "dairy", "()I"⟩
abbrev cX7_fault : ByteArray := prog_1_method_5_code
def yX7_fault : MethodName := ⟨RX7, "fault", "()I"⟩
abbrev cX7_rule : ByteArray := prog_1_method_6_code
def yX7_rule : MethodName := ⟨RX7, "rule", "(I)I"⟩
abbrev cX7_cow : ByteArray := prog_1_method_7_code
def yX7_cow : MethodName := ⟨RX7, "cow", "(II)I"⟩
abbrev cX7_feeds : ByteArray := prog_1_method_8_code
def yX7_feeds : MethodName := ⟨RX7, "feeds", "(II)I"⟩
abbrev cX7_fill : ByteArray := prog_1_method_9_code
def yX7_fill : MethodName := ⟨RX7, "fill", "(II)I"⟩
abbrev cX7_turn : ByteArray := prog_1_method_10_code
def yX7_turn : MethodName := ⟨RX7, "turn", "(II)I"⟩
abbrev cX7_warm : ByteArray := prog_1_method_11_code
def yX7_warm : MethodName := ⟨RX7, "warm", "(I)I"⟩
abbrev cX7_half : ByteArray := prog_1_method_12_code
def yX7_half : MethodName := ⟨RX7, "half", "()I"⟩
abbrev cX7_now : ByteArray := prog_1_method_13_code
def yX7_now : MethodName := ⟨RX7, "now", "(I)I"⟩
abbrev cX7_drops : ByteArray := prog_1_method_14_code
def yX7_drops : MethodName := ⟨RX7, "drops", "(I)I"⟩
abbrev cX7_run : ByteArray := prog_1_method_15_code
def yX7_run : MethodName := ⟨RX7, "run", "(IIIII)I"⟩
abbrev cX7_comes : ByteArray := prog_1_method_16_code
def yX7_comes : MethodName := ⟨RX7, "comes", "(III)I"⟩
abbrev cX7_plan : ByteArray := prog_1_method_17_code
def yX7_plan : MethodName := ⟨RX7, "plan", "(II)I"⟩
abbrev cX7_without : ByteArray := prog_1_method_18_code
def yX7_without : MethodName := ⟨RX7, "without", "(I)I"⟩
abbrev cX7_saw : ByteArray := prog_1_method_19_code
def yX7_saw : MethodName := ⟨RX7, "saw", "(II)I"⟩
abbrev cX7_forget : ByteArray := prog_1_method_20_code
def yX7_forget : MethodName := ⟨RX7, "forget", "()I"⟩
abbrev cX7_why : ByteArray := prog_1_method_21_code
def yX7_why : MethodName := ⟨RX7, "why", "(I)I"⟩
abbrev cX7_next : ByteArray := prog_1_method_22_code
def yX7_next : MethodName := ⟨RX7, "next", "(II)I"⟩
abbrev cX7_over : ByteArray := prog_1_method_23_code
def yX7_over : MethodName := ⟨RX7, "over", "(I)I"⟩
abbrev cX7_wash : ByteArray := prog_1_method_24_code
def yX7_wash : MethodName := ⟨RX7, "wash", "(IIII)J"⟩
abbrev cX7_washes : ByteArray := prog_1_method_25_code
def yX7_washes : MethodName := ⟨RX7, "washes", "(IIII)I"⟩
abbrev cX7_split : ByteArray := prog_1_method_26_code
def yX7_split : MethodName := ⟨RX7, "split", "(II)I"⟩
abbrev cX7_worked : ByteArray := prog_1_method_27_code
def yX7_worked : MethodName := ⟨RX7, "worked", "(III)I"⟩
abbrev cX7_keeps : ByteArray := prog_1_method_28_code
def yX7_keeps : MethodName := ⟨RX7, "keeps", "(II)I"⟩
abbrev cX7_rod : ByteArray := prog_1_method_29_code
def yX7_rod : MethodName := ⟨RX7, "rod", "(IIIII)I"⟩
abbrev cX7_near : ByteArray := prog_1_method_30_code
def yX7_near : MethodName := ⟨RX7, "near", "(IIIII)I"⟩
abbrev cX7_witch : ByteArray := prog_1_method_31_code
def yX7_witch : MethodName := ⟨RX7, "witch", "(IIIII)J"⟩
abbrev cX7_keep : ByteArray := prog_1_method_32_code
def yX7_keep : MethodName := ⟨RX7, "keep", "(I)I"⟩
abbrev cX7_back : ByteArray := prog_1_method_33_code
def yX7_back : MethodName := ⟨RX7, "back", "(I)I"⟩
abbrev cX7_sheet : ByteArray := prog_1_method_34_code
def yX7_sheet : MethodName := ⟨RX7, "sheet", "(III)I"⟩
abbrev cX7_lay : ByteArray := prog_1_method_35_code
def yX7_lay : MethodName := ⟨RX7, "lay", "(III)I"⟩
abbrev cX7_read : ByteArray := prog_1_method_36_code
def yX7_read : MethodName := ⟨RX7, "read", "(IIII)I"⟩
abbrev cX7_torn : ByteArray := prog_1_method_37_code
def yX7_torn : MethodName := ⟨RX7, "torn", "()I"⟩
abbrev cX7_count : ByteArray := prog_1_method_38_code
def yX7_count : MethodName := ⟨RX7, "count", "(I)I"⟩
abbrev cX7_outside : ByteArray := prog_1_method_39_code
def yX7_outside : MethodName := ⟨RX7, "outside", "(III)Z"⟩
abbrev cX7_isBadTurn : ByteArray := prog_1_method_40_code
def yX7_isBadTurn : MethodName := ⟨RX7, "isBadTurn", "(II)Z"⟩
abbrev cX7_isBadWash : ByteArray := prog_1_method_41_code
def yX7_isBadWash : MethodName := ⟨RX7, "isBadWash", "(II)Z"⟩
abbrev cX7_isBadShare : ByteArray := prog_1_method_42_code
def yX7_isBadShare : MethodName := ⟨RX7, "isBadShare", "(II)Z"⟩
abbrev cX7_isBadWater : ByteArray := prog_1_method_43_code
def yX7_isBadWater : MethodName := ⟨RX7, "isBadWater", "(II)Z"⟩
abbrev cX7_isBadRod : ByteArray := prog_1_method_44_code
def yX7_isBadRod : MethodName := ⟨RX7, "isBadRod", "(III)Z"⟩
abbrev cX7_isBadRun : ByteArray := prog_1_method_45_code
def yX7_isBadRun : MethodName := ⟨RX7, "isBadRun", "(III)Z"⟩
abbrev cX7_turnChurn : ByteArray := prog_1_method_46_code
def yX7_turnChurn : MethodName := ⟨RX7, "turnChurn", "(II)I"⟩
abbrev cX7_turnTrialTillCome : ByteArray := prog_1_method_47_code
def yX7_turnTrialTillCome : MethodName := ⟨RX7, "turnTrialTillCome", "(II)I"⟩
abbrev cX7_findBest : ByteArray := prog_1_method_48_code
def yX7_findBest : MethodName := ⟨RX7, "findBest", "(I)V"⟩
abbrev cX7_isAsSeen : ByteArray := prog_1_method_49_code
def yX7_isAsSeen : MethodName := ⟨RX7, "isAsSeen", "(II)Z"⟩
abbrev cX7_tryDeed : ByteArray := prog_1_method_50_code
def yX7_tryDeed : MethodName := ⟨RX7, "tryDeed", "(I)V"⟩
abbrev cX7_workWater : ByteArray := prog_1_method_51_code
def yX7_workWater : MethodName := ⟨RX7, "workWater", "(II)V"⟩
abbrev cX7_chancesAbove : ByteArray := prog_1_method_52_code
def yX7_chancesAbove : MethodName := ⟨RX7, "chancesAbove", "(IIII)I"⟩
abbrev cX7_imageAt : ByteArray := prog_1_method_53_code
def yX7_imageAt : MethodName := ⟨RX7, "imageAt", "(I)LButterChurn$Image;"⟩
abbrev cX7_sheetAt : ByteArray := prog_1_method_54_code
def yX7_sheetAt : MethodName := ⟨RX7, "sheetAt", "(I)LButterChurn$Sheet;"⟩
abbrev cX7_cellsOf : ByteArray := prog_1_method_55_code
def yX7_cellsOf : MethodName := ⟨RX7, "cellsOf", "(LButterChurn$Sheet;)I"⟩
abbrev cX7_imagesThere : ByteArray := prog_1_method_56_code
def yX7_imagesThere : MethodName := ⟨RX7, "imagesThere", "()I"⟩
abbrev cX7_power : ByteArray := prog_1_method_57_code
def yX7_power : MethodName := ⟨RX7, "power", "(JI)J"⟩
abbrev cX7_lowest : ByteArray := prog_1_method_58_code
def yX7_lowest : MethodName := ⟨RX7, "lowest", "(JJI)J"⟩
def RX8 : String := "ButterChurnModel"
def TX8 : u_T := fun k => match k with
  | 0 => ("ButterChurnModel", "tape", "[I", true)
  | 1 => ("ButterChurnModel", "taped", "I", false)
  | 2 => ("ButterChurnModel", "fault", "I", false)
  | 3 => ("ButterChurnModel", "broken", "I", false)
  | 4 => ("ButterChurnModel", "brokenAt", "I", false)
  | 5 => ("ButterChurnModel", "spot", "I", false)
  | 6 => ("ButterChurnModel", "here", "I", false)
  | 7 => ("ButterChurnModel", "token", "I", false)
  | 8 => ("ButterChurnModel", "value", "I", false)
  | 9 => ("ButterChurnModel", "cuts", "[I", true)
  | 10 => ("ButterChurnModel", "letters", "[I", true)
  | 11 => ("ButterChurnModel", "from", "[I", true)
  | 12 => ("ButterChurnModel", "to", "[I", true)
  | 13 => ("ButterChurnModel", "low", "[I", true)
  | 14 => ("ButterChurnModel", "top", "[I", true)
  | 15 => ("ButterChurnModel", "plain", "[I", true)
  | 16 => ("ButterChurnModel", "rules", "[I", true)
  | 17 => ("ButterChurnModel", "cows", "[I", true)
  | 18 => ("ButterChurnModel", "cowMany", "I", false)
  | 19 => ("ButterChurnModel", "readRules", "[I", true)
  | 20 => ("ButterChurnModel", "readCows", "[I", true)
  | 21 => ("ButterChurnModel", "readMany", "I", false)
  | 22 => ("ButterChurnModel", "toldOnes", "I", false)
  | 23 => ("ButterChurnModel", "state", "[I", true)
  | 24 => ("ButterChurnModel", "isAwake", "Z", false)
  | 25 => ("ButterChurnModel", "pairs", "[I", true)
  | 26 => ("ButterChurnModel", "best", "[I", true)
  | 27 => ("ButterChurnModel", "seen", "[I", true)
  | 28 => ("ButterChurnModel", "seenMany", "I", false)
  | 29 => ("ButterChurnModel", "wet", "[I", true)
  | 30 => ("ButterChurnModel", "isKept", "[Z", true)
  | 31 => ("ButterChurnModel", "lanes", "[I", true)
  | 32 => ("ButterChurnModel", "lengths", "[I", true)
  | 33 => ("ButterChurnModel", "cells", "[I", true)
  | _ => ("ButterChurnModel", "torn", "I", false)
def tyX8 : Nat → FieldType := fun k => match k with
  | 0 => .array .int
  | 1 => .int
  | 2 => .int
  | 3 => .int
  | 4 => .int
  | 5 => .int
  | 6 => .int
  | 7 => .int
  | 8 => .int
  | 9 => .array .int
  | 10 => .array .int
  | 11 => .array .int
  | 12 => .array .int
  | 13 => .array .int
  | 14 => .array .int
  | 15 => .array .int
  | 16 => .array .int
  | 17 => .array .int
  | 18 => .int
  | 19 => .array .int
  | 20 => .array .int
  | 21 => .int
  | 22 => .int
  | 23 => .array .int
  | 24 => .boolean
  | 25 => .array .int
  | 26 => .array .int
  | 27 => .array .int
  | 28 => .int
  | 29 => .array .int
  | 30 => .array .boolean
  | 31 => .array .int
  | 32 => .array .int
  | 33 => .array .int
  | _ => .int
abbrev wsX80 : List Cond := u_ws RX8 TX8 35
theorem nmX8 : ∀ a, a < 35 → ∀ b, b < 35 → a ≠ b → (TX8 a).2.1 ≠ (TX8 b).2.1 := by decide +kernel
theorem tyX8_ok : ∀ k, k < 35 → parseFieldDescriptor (TX8 k).2.2.1 = some (tyX8 k) := by decide +kernel
abbrev cX8_init : ByteArray := prog_10_method_1_code
def yX8_init : MethodName := ⟨RX8, "<init>", "()V"⟩
abbrev cX8_in : ByteArray := prog_10_method_3_code
def yX8_in : MethodName := ⟨RX8, "in", "(JJJ)Z"⟩
abbrev cX8_feed : ByteArray := prog_10_method_4_code
def yX8_feed : MethodName := ⟨RX8, "feed", "(J)I"⟩
abbrev cX8_end : ByteArray := prog_10_method_5_code
def yX8_end : MethodName := ⟨RX8, "end", "(I)I"⟩
abbrev cX8_byteAt : ByteArray := prog_10_method_6_code
def yX8_byteAt : MethodName := ⟨RX8, "byteAt", "(I)I"⟩
abbrev cX8_fails : ByteArray := prog_10_method_7_code
def yX8_fails : MethodName := ⟨RX8, "fails", "(I)V"⟩
abbrev cX8_nameHere : ByteArray := prog_10_method_8_code
def yX8_nameHere : MethodName := ⟨RX8, "nameHere", "()I"⟩
abbrev cX8_step : ByteArray := prog_10_method_9_code
def yX8_step : MethodName := ⟨RX8, "step", "()V"⟩
abbrev cX8_number : ByteArray := prog_10_method_10_code
def yX8_number : MethodName := ⟨RX8, "number", "(II)I"⟩
abbrev cX8_readLine : ByteArray := prog_10_method_11_code
def yX8_readLine : MethodName := ⟨RX8, "readLine", "()V"⟩
abbrev cX8_dairy : ByteArray := prog_10_method_12_code
def yX8_dairy : MethodName := ⟨RX8, "dairy", "()I"⟩
abbrev cX8_fault : ByteArray := prog_10_method_13_code
def yX8_fault : MethodName := ⟨RX8, "fault", "()I"⟩
abbrev cX8_rule : ByteArray := prog_10_method_14_code
def yX8_rule : MethodName := ⟨RX8, "rule", "(I)I"⟩
abbrev cX8_isCow : ByteArray := prog_10_method_15_code
def yX8_isCow : MethodName := ⟨RX8, "isCow", "(I)Z"⟩
abbrev cX8_cow : ByteArray := prog_10_method_16_code
def yX8_cow : MethodName := ⟨RX8, "cow", "(II)I"⟩
abbrev cX8_feeds : ByteArray := prog_10_method_17_code
def yX8_feeds : MethodName := ⟨RX8, "feeds", "(II)I"⟩
abbrev cX8_awake : ByteArray := prog_10_method_18_code
def yX8_awake : MethodName := ⟨RX8, "awake", "()V"⟩
abbrev cX8_copies : ByteArray := prog_10_method_19_code
def yX8_copies : MethodName := ⟨RX8, "copies", "(II)V"⟩
abbrev cX8_fills : ByteArray := prog_10_method_20_code
def yX8_fills : MethodName := ⟨RX8, "fills", "(III)V"⟩
abbrev cX8_hardness : ByteArray := prog_10_method_21_code
def yX8_hardness : MethodName := ⟨RX8, "hardness", "(I)I"⟩
abbrev cX8_fatFrom : ByteArray := prog_10_method_22_code
def yX8_fatFrom : MethodName := ⟨RX8, "fatFrom", "(II)I"⟩
abbrev cX8_isSwollen : ByteArray := prog_10_method_23_code
def yX8_isSwollen : MethodName := ⟨RX8, "isSwollen", "(I)Z"⟩
abbrev cX8_joins : ByteArray := prog_10_method_24_code
def yX8_joins : MethodName := ⟨RX8, "joins", "(II)V"⟩
abbrev cX8_turns : ByteArray := prog_10_method_25_code
def yX8_turns : MethodName := ⟨RX8, "turns", "(II)Z"⟩
abbrev cX8_isWarm : ByteArray := prog_10_method_26_code
def yX8_isWarm : MethodName := ⟨RX8, "isWarm", "(I)Z"⟩
abbrev cX8_isPace : ByteArray := prog_10_method_27_code
def yX8_isPace : MethodName := ⟨RX8, "isPace", "(I)Z"⟩
abbrev cX8_areCows : ByteArray := prog_10_method_28_code
def yX8_areCows : MethodName := ⟨RX8, "areCows", "(I)Z"⟩
abbrev cX8_fill : ByteArray := prog_10_method_29_code
def yX8_fill : MethodName := ⟨RX8, "fill", "(II)I"⟩
abbrev cX8_turn : ByteArray := prog_10_method_30_code
def yX8_turn : MethodName := ⟨RX8, "turn", "(II)I"⟩
abbrev cX8_warm : ByteArray := prog_10_method_31_code
def yX8_warm : MethodName := ⟨RX8, "warm", "(I)I"⟩
abbrev cX8_halves : ByteArray := prog_10_method_32_code
def yX8_halves : MethodName := ⟨RX8, "halves", "(I)V"⟩
abbrev cX8_half : ByteArray := prog_10_method_33_code
def yX8_half : MethodName := ⟨RX8, "half", "()I"⟩
abbrev cX8_isOver : ByteArray := prog_10_method_34_code
def yX8_isOver : MethodName := ⟨RX8, "isOver", "(I)Z"⟩
abbrev cX8_left : ByteArray := prog_10_method_35_code
def yX8_left : MethodName := ⟨RX8, "left", "(I)I"⟩
abbrev cX8_which : ByteArray := prog_10_method_36_code
def yX8_which : MethodName := ⟨RX8, "which", "(I)I"⟩
abbrev cX8_told : ByteArray := prog_10_method_37_code
def yX8_told : MethodName := ⟨RX8, "told", "(II)I"⟩
abbrev cX8_now : ByteArray := prog_10_method_38_code
def yX8_now : MethodName := ⟨RX8, "now", "(I)I"⟩
abbrev cX8_drops : ByteArray := prog_10_method_39_code
def yX8_drops : MethodName := ⟨RX8, "drops", "(I)I"⟩
abbrev cX8_run : ByteArray := prog_10_method_40_code
def yX8_run : MethodName := ⟨RX8, "run", "(IIIII)I"⟩
abbrev cX8_tillCome : ByteArray := prog_10_method_41_code
def yX8_tillCome : MethodName := ⟨RX8, "tillCome", "(II)I"⟩
abbrev cX8_comes : ByteArray := prog_10_method_42_code
def yX8_comes : MethodName := ⟨RX8, "comes", "(III)I"⟩
abbrev cX8_layPlan : ByteArray := prog_10_method_43_code
def yX8_layPlan : MethodName := ⟨RX8, "layPlan", "(I)Z"⟩
abbrev cX8_plan : ByteArray := prog_10_method_44_code
def yX8_plan : MethodName := ⟨RX8, "plan", "(II)I"⟩
abbrev cX8_bitsOf : ByteArray := prog_10_method_45_code
def yX8_bitsOf : MethodName := ⟨RX8, "bitsOf", "(I)I"⟩
abbrev cX8_without : ByteArray := prog_10_method_46_code
def yX8_without : MethodName := ⟨RX8, "without", "(I)I"⟩
abbrev cX8_saw : ByteArray := prog_10_method_47_code
def yX8_saw : MethodName := ⟨RX8, "saw", "(II)I"⟩
abbrev cX8_forget : ByteArray := prog_10_method_48_code
def yX8_forget : MethodName := ⟨RX8, "forget", "()I"⟩
abbrev cX8_isSo : ByteArray := prog_10_method_49_code
def yX8_isSo : MethodName := ⟨RX8, "isSo", "(II)Z"⟩
abbrev cX8_why : ByteArray := prog_10_method_50_code
def yX8_why : MethodName := ⟨RX8, "why", "(I)I"⟩
abbrev cX8_next : ByteArray := prog_10_method_51_code
def yX8_next : MethodName := ⟨RX8, "next", "(II)I"⟩
abbrev cX8_over : ByteArray := prog_10_method_52_code
def yX8_over : MethodName := ⟨RX8, "over", "(I)I"⟩
abbrev cX8_lowest : ByteArray := prog_10_method_53_code
def yX8_lowest : MethodName := ⟨RX8, "lowest", "(JJI)J"⟩
abbrev cX8_power : ByteArray := prog_10_method_54_code
def yX8_power : MethodName := ⟨RX8, "power", "(JI)J"⟩
abbrev cX8_isWash : ByteArray := prog_10_method_55_code
def yX8_isWash : MethodName := ⟨RX8, "isWash", "(II)Z"⟩
abbrev cX8_wash : ByteArray := prog_10_method_56_code
def yX8_wash : MethodName := ⟨RX8, "wash", "(IIII)J"⟩
abbrev cX8_washes : ByteArray := prog_10_method_57_code
def yX8_washes : MethodName := ⟨RX8, "washes", "(IIII)I"⟩
abbrev cX8_split : ByteArray := prog_10_method_58_code
def yX8_split : MethodName := ⟨RX8, "split", "(II)I"⟩
abbrev cX8_layWet : ByteArray := prog_10_method_59_code
def yX8_layWet : MethodName := ⟨RX8, "layWet", "(II)Z"⟩
abbrev cX8_worked : ByteArray := prog_10_method_60_code
def yX8_worked : MethodName := ⟨RX8, "worked", "(III)I"⟩
abbrev cX8_keeps : ByteArray := prog_10_method_61_code
def yX8_keeps : MethodName := ⟨RX8, "keeps", "(II)I"⟩
abbrev cX8_isRod : ByteArray := prog_10_method_62_code
def yX8_isRod : MethodName := ⟨RX8, "isRod", "(III)Z"⟩
abbrev cX8_above : ByteArray := prog_10_method_63_code
def yX8_above : MethodName := ⟨RX8, "above", "(IIII)I"⟩
abbrev cX8_rod : ByteArray := prog_10_method_64_code
def yX8_rod : MethodName := ⟨RX8, "rod", "(IIIII)I"⟩
abbrev cX8_near : ByteArray := prog_10_method_65_code
def yX8_near : MethodName := ⟨RX8, "near", "(IIIII)I"⟩
abbrev cX8_witch : ByteArray := prog_10_method_66_code
def yX8_witch : MethodName := ⟨RX8, "witch", "(IIIII)J"⟩
abbrev cX8_keep : ByteArray := prog_10_method_67_code
def yX8_keep : MethodName := ⟨RX8, "keep", "(I)I"⟩
abbrev cX8_back : ByteArray := prog_10_method_68_code
def yX8_back : MethodName := ⟨RX8, "back", "(I)I"⟩
abbrev cX8_sheet : ByteArray := prog_10_method_69_code
def yX8_sheet : MethodName := ⟨RX8, "sheet", "(III)I"⟩
abbrev cX8_lay : ByteArray := prog_10_method_70_code
def yX8_lay : MethodName := ⟨RX8, "lay", "(III)I"⟩
abbrev cX8_read : ByteArray := prog_10_method_71_code
def yX8_read : MethodName := ⟨RX8, "read", "(IIII)I"⟩
abbrev cX8_torn : ByteArray := prog_10_method_72_code
def yX8_torn : MethodName := ⟨RX8, "torn", "()I"⟩
abbrev cX8_count : ByteArray := prog_10_method_73_code
def yX8_count : MethodName := ⟨RX8, "count", "(I)I"⟩
def RJx8e188 : String := "java/lang/Cloneable"
def TJx8e188 : u_T := fun k => match k with
  | _ => ("", "", "", false)
def tyJx8e188 : Nat → FieldType := fun k => match k with
  | _ => .int
def RJ6 : String := "java/lang/Integer"
def TJ6 : u_T := fun k => match k with
  | _ => ("", "", "", false)
def tyJ6 : Nat → FieldType := fun k => match k with
  | _ => .int
abbrev cJ6_bitCount_0f7a4 : ByteArray := prog_12_method_49_code
def yJ6_bitCount_0f7a4 : MethodName := ⟨RJ6, "bitCount", "(I)I"⟩
def RJ9 : String := "java/lang/Math"
def TJ9 : u_T := fun k => match k with
  | _ => ("", "", "", false)
def tyJ9 : Nat → FieldType := fun k => match k with
  | _ => .int
abbrev cJ9_floorDiv_7cf53 : ByteArray := prog_13_method_47_code
def yJ9_floorDiv_7cf53 : MethodName := ⟨RJ9, "floorDiv", "(II)I"⟩
abbrev cJ9_max_7cf53 : ByteArray := prog_13_method_65_code
def yJ9_max_7cf53 : MethodName := ⟨RJ9, "max", "(II)I"⟩
abbrev cJ9_min_7cf53 : ByteArray := prog_13_method_69_code
def yJ9_min_7cf53 : MethodName := ⟨RJ9, "min", "(II)I"⟩
def RJ0 : String := "java/lang/String"
def TJ0 : u_T := fun k => match k with
  | _ => ("", "", "", false)
def tyJ0 : Nat → FieldType := fun k => match k with
  | _ => .int
abbrev cJ0_length_8abf5 : ByteArray := prog_14_method_54_code
def yJ0_length_8abf5 : MethodName := ⟨RJ0, "length", "()I"⟩
abbrev cJ0_charAt_5068e : ByteArray := prog_14_method_56_code
def yJ0_charAt_5068e : MethodName := ⟨RJ0, "charAt", "(I)C"⟩
abbrev cJ0_coder_7d493 : ByteArray := prog_14_method_152_code
def yJ0_coder_7d493 : MethodName := ⟨RJ0, "coder", "()B"⟩
abbrev cJ0_isLatin1_aae02 : ByteArray := prog_14_method_154_code
def yJ0_isLatin1_aae02 : MethodName := ⟨RJ0, "isLatin1", "()Z"⟩
abbrev cJ0_checkIndex_df160 : ByteArray := prog_14_method_155_code
def yJ0_checkIndex_df160 : MethodName := ⟨RJ0, "checkIndex", "(II)V"⟩
def RJ1 : String := "java/lang/StringLatin1"
def TJ1 : u_T := fun k => match k with
  | _ => ("", "", "", false)
def tyJ1 : Nat → FieldType := fun k => match k with
  | _ => .int
abbrev cJ1_charAt_3b067 : ByteArray := prog_15_method_2_code
def yJ1_charAt_3b067 : MethodName := ⟨RJ1, "charAt", "([BI)C"⟩
def RJ2 : String := "java/lang/StringUTF16"
def TJ2 : u_T := fun k => match k with
  | _ => ("", "", "", false)
def tyJ2 : Nat → FieldType := fun k => match k with
  | _ => .int
abbrev cJ2_getChar_3b067 : ByteArray := prog_16_method_5_code
def yJ2_getChar_3b067 : MethodName := ⟨RJ2, "getChar", "([BI)C"⟩
abbrev cJ2_length_9d52b : ByteArray := prog_16_method_6_code
def yJ2_length_9d52b : MethodName := ⟨RJ2, "length", "([B)I"⟩
abbrev cJ2_charAt_3b067 : ByteArray := prog_16_method_83_code
def yJ2_charAt_3b067 : MethodName := ⟨RJ2, "charAt", "([BI)C"⟩
abbrev cJ2_checkIndex_2214a : ByteArray := prog_16_method_91_code
def yJ2_checkIndex_2214a : MethodName := ⟨RJ2, "checkIndex", "(I[B)V"⟩
def RJ10 : String := "java/lang/System"
def TJ10 : u_T := fun k => match k with
  | _ => ("", "", "", false)
def tyJ10 : Nat → FieldType := fun k => match k with
  | _ => .int
def RJ3 : String := "jdk/internal/util/Preconditions"
def TJ3 : u_T := fun k => match k with
  | _ => ("", "", "", false)
def tyJ3 : Nat → FieldType := fun k => match k with
  | _ => .int
abbrev cJ3_checkIndex_8e157 : ByteArray := prog_18_method_11_code
def yJ3_checkIndex_8e157 : MethodName := ⟨RJ3, "checkIndex", "(IILjava/util/function/BiFunction;)I"⟩
def RL : String := "ButterChurnLaw"
abbrev cL_law : ByteArray := code
def yL_law : MethodName := ⟨RL, "law", "([I)Z"⟩
abbrev vwCl : List vw_C := [(RX0, TX0, 5), (RX1, TX1, 7), (RX2, TX2, 2), (RX3, TX3, 8), (RX4, TX4, 3), (RX5, TX5, 6), (RX6, TX6, 5), (RX7, TX7, 12), (RX8, TX8, 35)]
