section
-- begun from kit/laws (PART A) and the printed names
-- ===== PART A: goes FIRST, ahead of the names: the tables' words, and 'selects' of the private methods out of them =====
/-- a private method of a class that the tables say can be made, by its rows of tables_1 -/
def lw_okq (q : MethodName × Nat) : Prop := (q.1.cls ≠ "java/lang/invoke/MethodHandle" ∧ q.1.cls ≠ "java/lang/invoke/VarHandle") ∧ Cond.instantiable q.1.cls q.2 ∈ tables_1 ∧ Cond.privateMethod q.1 ∈ tables_1 ∧ Cond.instanceMethod q.1 ∈ tables_1
theorem lw_p0 : lw_okq (⟨"ButterChurn$Tape", "kindAt", "(I)I"⟩, 6) := ⟨⟨by decide +kernel, by decide +kernel⟩, List.mem_of_getElem? (i := 75) (by decide +kernel), List.mem_of_getElem? (i := 304) (by decide +kernel), List.mem_of_getElem? (i := 305) (by decide +kernel)⟩
theorem lw_p1 : lw_okq (⟨"ButterChurn$Tape", "byteAt", "(I)I"⟩, 6) := ⟨⟨by decide +kernel, by decide +kernel⟩, List.mem_of_getElem? (i := 75) (by decide +kernel), List.mem_of_getElem? (i := 308) (by decide +kernel), List.mem_of_getElem? (i := 309) (by decide +kernel)⟩
theorem lw_p2 : lw_okq (⟨"ButterChurn$Tape", "takeNumber", "()V"⟩, 6) := ⟨⟨by decide +kernel, by decide +kernel⟩, List.mem_of_getElem? (i := 75) (by decide +kernel), List.mem_of_getElem? (i := 312) (by decide +kernel), List.mem_of_getElem? (i := 313) (by decide +kernel)⟩
theorem lw_p3 : lw_okq (⟨"ButterChurn$Reading", "takeToken", "()V"⟩, 8) := ⟨⟨by decide +kernel, by decide +kernel⟩, List.mem_of_getElem? (i := 69) (by decide +kernel), List.mem_of_getElem? (i := 316) (by decide +kernel), List.mem_of_getElem? (i := 317) (by decide +kernel)⟩
theorem lw_p4 : lw_okq (⟨"ButterChurn$Reading", "refuse", "(I)V"⟩, 8) := ⟨⟨by decide +kernel, by decide +kernel⟩, List.mem_of_getElem? (i := 69) (by decide +kernel), List.mem_of_getElem? (i := 320) (by decide +kernel), List.mem_of_getElem? (i := 321) (by decide +kernel)⟩
theorem lw_p5 : lw_okq (⟨"ButterChurn$Reading", "beginLine", "()V"⟩, 8) := ⟨⟨by decide +kernel, by decide +kernel⟩, List.mem_of_getElem? (i := 69) (by decide +kernel), List.mem_of_getElem? (i := 326) (by decide +kernel), List.mem_of_getElem? (i := 327) (by decide +kernel)⟩
theorem lw_p6 : lw_okq (⟨"ButterChurn$Reading", "lineNamed", "()I"⟩, 8) := ⟨⟨by decide +kernel, by decide +kernel⟩, List.mem_of_getElem? (i := 69) (by decide +kernel), List.mem_of_getElem? (i := 330) (by decide +kernel), List.mem_of_getElem? (i := 331) (by decide +kernel)⟩
theorem lw_p7 : lw_okq (⟨"ButterChurn$Reading", "takeNumber", "()V"⟩, 8) := ⟨⟨by decide +kernel, by decide +kernel⟩, List.mem_of_getElem? (i := 69) (by decide +kernel), List.mem_of_getElem? (i := 398) (by decide +kernel), List.mem_of_getElem? (i := 399) (by decide +kernel)⟩
theorem lw_p8 : lw_okq (⟨"ButterChurn$Reading", "endLine", "()V"⟩, 8) := ⟨⟨by decide +kernel, by decide +kernel⟩, List.mem_of_getElem? (i := 69) (by decide +kernel), List.mem_of_getElem? (i := 413) (by decide +kernel), List.mem_of_getElem? (i := 414) (by decide +kernel)⟩
theorem lw_p9 : lw_okq (⟨"ButterChurn", "turnChurn", "(II)I"⟩, 12) := ⟨⟨by decide +kernel, by decide +kernel⟩, List.mem_of_getElem? (i := 18) (by decide +kernel), List.mem_of_getElem? (i := 474) (by decide +kernel), List.mem_of_getElem? (i := 475) (by decide +kernel)⟩
theorem lw_p10 : lw_okq (⟨"ButterChurn$Churn", "beatIn", "(LButterChurn$Told;I)V"⟩, 7) := ⟨⟨by decide +kernel, by decide +kernel⟩, List.mem_of_getElem? (i := 136) (by decide +kernel), List.mem_of_getElem? (i := 490) (by decide +kernel), List.mem_of_getElem? (i := 491) (by decide +kernel)⟩
theorem lw_p11 : lw_okq (⟨"ButterChurn$Churn", "rate", "(LButterChurn$Told;I)I"⟩, 7) := ⟨⟨by decide +kernel, by decide +kernel⟩, List.mem_of_getElem? (i := 136) (by decide +kernel), List.mem_of_getElem? (i := 497) (by decide +kernel), List.mem_of_getElem? (i := 498) (by decide +kernel)⟩
theorem lw_p12 : lw_okq (⟨"ButterChurn$Churn", "joinDrops", "(I)V"⟩, 7) := ⟨⟨by decide +kernel, by decide +kernel⟩, List.mem_of_getElem? (i := 136) (by decide +kernel), List.mem_of_getElem? (i := 512) (by decide +kernel), List.mem_of_getElem? (i := 513) (by decide +kernel)⟩
theorem lw_p13 : lw_okq (⟨"ButterChurn$Churn", "breakIfDue", "(LButterChurn$Told;)V"⟩, 7) := ⟨⟨by decide +kernel, by decide +kernel⟩, List.mem_of_getElem? (i := 136) (by decide +kernel), List.mem_of_getElem? (i := 516) (by decide +kernel), List.mem_of_getElem? (i := 517) (by decide +kernel)⟩
theorem lw_p14 : lw_okq (⟨"ButterChurn$Churn", "outcome", "(LButterChurn$Told;)I"⟩, 7) := ⟨⟨by decide +kernel, by decide +kernel⟩, List.mem_of_getElem? (i := 136) (by decide +kernel), List.mem_of_getElem? (i := 548) (by decide +kernel), List.mem_of_getElem? (i := 549) (by decide +kernel)⟩
theorem lw_p15 : lw_okq (⟨"ButterChurn", "isBadRun", "(III)Z"⟩, 12) := ⟨⟨by decide +kernel, by decide +kernel⟩, List.mem_of_getElem? (i := 18) (by decide +kernel), List.mem_of_getElem? (i := 568) (by decide +kernel), List.mem_of_getElem? (i := 569) (by decide +kernel)⟩
def lw_privs_1 : List (MethodName × Nat) := [(⟨"ButterChurn$Tape", "kindAt", "(I)I"⟩, 6), (⟨"ButterChurn$Tape", "byteAt", "(I)I"⟩, 6), (⟨"ButterChurn$Tape", "takeNumber", "()V"⟩, 6), (⟨"ButterChurn$Reading", "takeToken", "()V"⟩, 8), (⟨"ButterChurn$Reading", "refuse", "(I)V"⟩, 8), (⟨"ButterChurn$Reading", "beginLine", "()V"⟩, 8), (⟨"ButterChurn$Reading", "lineNamed", "()I"⟩, 8), (⟨"ButterChurn$Reading", "takeNumber", "()V"⟩, 8), (⟨"ButterChurn$Reading", "endLine", "()V"⟩, 8), (⟨"ButterChurn", "turnChurn", "(II)I"⟩, 12), (⟨"ButterChurn$Churn", "beatIn", "(LButterChurn$Told;I)V"⟩, 7), (⟨"ButterChurn$Churn", "rate", "(LButterChurn$Told;I)I"⟩, 7), (⟨"ButterChurn$Churn", "joinDrops", "(I)V"⟩, 7), (⟨"ButterChurn$Churn", "breakIfDue", "(LButterChurn$Told;)V"⟩, 7), (⟨"ButterChurn$Churn", "outcome", "(LButterChurn$Told;)I"⟩, 7), (⟨"ButterChurn", "isBadRun", "(III)Z"⟩, 12)]
theorem lw_r1 : ∀ q ∈ lw_privs_1, lw_okq q := List.forall_mem_cons.mpr ⟨lw_p0, List.forall_mem_cons.mpr ⟨lw_p1, List.forall_mem_cons.mpr ⟨lw_p2, List.forall_mem_cons.mpr ⟨lw_p3, List.forall_mem_cons.mpr ⟨lw_p4, List.forall_mem_cons.mpr ⟨lw_p5, List.forall_mem_cons.mpr ⟨lw_p6, List.forall_mem_cons.mpr ⟨lw_p7, List.forall_mem_cons.mpr ⟨lw_p8, List.forall_mem_cons.mpr ⟨lw_p9, List.forall_mem_cons.mpr ⟨lw_p10, List.forall_mem_cons.mpr ⟨lw_p11, List.forall_mem_cons.mpr ⟨lw_p12, List.forall_mem_cons.mpr ⟨lw_p13, List.forall_mem_cons.mpr ⟨lw_p14, List.forall_mem_cons.mpr ⟨lw_p15, fun _ h => absurd h List.not_mem_nil⟩⟩⟩⟩⟩⟩⟩⟩⟩⟩⟩⟩⟩⟩⟩⟩
theorem lw_p16 : lw_okq (⟨"ButterChurn", "turnTrialTillCome", "(II)I"⟩, 12) := ⟨⟨by decide +kernel, by decide +kernel⟩, List.mem_of_getElem? (i := 18) (by decide +kernel), List.mem_of_getElem? (i := 576) (by decide +kernel), List.mem_of_getElem? (i := 577) (by decide +kernel)⟩
theorem lw_p17 : lw_okq (⟨"ButterChurn", "findBest", "(I)V"⟩, 12) := ⟨⟨by decide +kernel, by decide +kernel⟩, List.mem_of_getElem? (i := 18) (by decide +kernel), List.mem_of_getElem? (i := 586) (by decide +kernel), List.mem_of_getElem? (i := 587) (by decide +kernel)⟩
theorem lw_p18 : lw_okq (⟨"ButterChurn", "isAsSeen", "(II)Z"⟩, 12) := ⟨⟨by decide +kernel, by decide +kernel⟩, List.mem_of_getElem? (i := 18) (by decide +kernel), List.mem_of_getElem? (i := 626) (by decide +kernel), List.mem_of_getElem? (i := 627) (by decide +kernel)⟩
theorem lw_p19 : lw_okq (⟨"ButterChurn", "tryDeed", "(I)V"⟩, 12) := ⟨⟨by decide +kernel, by decide +kernel⟩, List.mem_of_getElem? (i := 18) (by decide +kernel), List.mem_of_getElem? (i := 634) (by decide +kernel), List.mem_of_getElem? (i := 635) (by decide +kernel)⟩
theorem lw_p20 : lw_okq (⟨"ButterChurn", "workWater", "(II)V"⟩, 12) := ⟨⟨by decide +kernel, by decide +kernel⟩, List.mem_of_getElem? (i := 18) (by decide +kernel), List.mem_of_getElem? (i := 683) (by decide +kernel), List.mem_of_getElem? (i := 684) (by decide +kernel)⟩
theorem lw_p21 : lw_okq (⟨"ButterChurn", "imageAt", "(I)LButterChurn$Image;"⟩, 12) := ⟨⟨by decide +kernel, by decide +kernel⟩, List.mem_of_getElem? (i := 18) (by decide +kernel), List.mem_of_getElem? (i := 713) (by decide +kernel), List.mem_of_getElem? (i := 714) (by decide +kernel)⟩
theorem lw_p22 : lw_okq (⟨"ButterChurn", "sheetAt", "(I)LButterChurn$Sheet;"⟩, 12) := ⟨⟨by decide +kernel, by decide +kernel⟩, List.mem_of_getElem? (i := 18) (by decide +kernel), List.mem_of_getElem? (i := 725) (by decide +kernel), List.mem_of_getElem? (i := 726) (by decide +kernel)⟩
theorem lw_p23 : lw_okq (⟨"ButterChurn", "imagesThere", "()I"⟩, 12) := ⟨⟨by decide +kernel, by decide +kernel⟩, List.mem_of_getElem? (i := 18) (by decide +kernel), List.mem_of_getElem? (i := 770) (by decide +kernel), List.mem_of_getElem? (i := 771) (by decide +kernel)⟩
theorem lw_p24 : lw_okq (⟨"ButterChurnModel", "step", "()V"⟩, 35) := ⟨⟨by decide +kernel, by decide +kernel⟩, List.mem_of_getElem? (i := 778) (by decide +kernel), List.mem_of_getElem? (i := 906) (by decide +kernel), List.mem_of_getElem? (i := 907) (by decide +kernel)⟩
theorem lw_p25 : lw_okq (⟨"ButterChurnModel", "byteAt", "(I)I"⟩, 35) := ⟨⟨by decide +kernel, by decide +kernel⟩, List.mem_of_getElem? (i := 778) (by decide +kernel), List.mem_of_getElem? (i := 910) (by decide +kernel), List.mem_of_getElem? (i := 911) (by decide +kernel)⟩
theorem lw_p26 : lw_okq (⟨"ButterChurnModel", "fails", "(I)V"⟩, 35) := ⟨⟨by decide +kernel, by decide +kernel⟩, List.mem_of_getElem? (i := 778) (by decide +kernel), List.mem_of_getElem? (i := 918) (by decide +kernel), List.mem_of_getElem? (i := 919) (by decide +kernel)⟩
theorem lw_p27 : lw_okq (⟨"ButterChurnModel", "readLine", "()V"⟩, 35) := ⟨⟨by decide +kernel, by decide +kernel⟩, List.mem_of_getElem? (i := 778) (by decide +kernel), List.mem_of_getElem? (i := 922) (by decide +kernel), List.mem_of_getElem? (i := 923) (by decide +kernel)⟩
theorem lw_p28 : lw_okq (⟨"ButterChurnModel", "nameHere", "()I"⟩, 35) := ⟨⟨by decide +kernel, by decide +kernel⟩, List.mem_of_getElem? (i := 778) (by decide +kernel), List.mem_of_getElem? (i := 926) (by decide +kernel), List.mem_of_getElem? (i := 927) (by decide +kernel)⟩
theorem lw_p29 : lw_okq (⟨"ButterChurnModel", "number", "(II)I"⟩, 35) := ⟨⟨by decide +kernel, by decide +kernel⟩, List.mem_of_getElem? (i := 778) (by decide +kernel), List.mem_of_getElem? (i := 930) (by decide +kernel), List.mem_of_getElem? (i := 931) (by decide +kernel)⟩
theorem lw_p30 : lw_okq (⟨"ButterChurnModel", "fills", "(III)V"⟩, 35) := ⟨⟨by decide +kernel, by decide +kernel⟩, List.mem_of_getElem? (i := 778) (by decide +kernel), List.mem_of_getElem? (i := 934) (by decide +kernel), List.mem_of_getElem? (i := 935) (by decide +kernel)⟩
theorem lw_p31 : lw_okq (⟨"ButterChurnModel", "isCow", "(I)Z"⟩, 35) := ⟨⟨by decide +kernel, by decide +kernel⟩, List.mem_of_getElem? (i := 778) (by decide +kernel), List.mem_of_getElem? (i := 955) (by decide +kernel), List.mem_of_getElem? (i := 956) (by decide +kernel)⟩
def lw_privs_2 : List (MethodName × Nat) := [(⟨"ButterChurn", "turnTrialTillCome", "(II)I"⟩, 12), (⟨"ButterChurn", "findBest", "(I)V"⟩, 12), (⟨"ButterChurn", "isAsSeen", "(II)Z"⟩, 12), (⟨"ButterChurn", "tryDeed", "(I)V"⟩, 12), (⟨"ButterChurn", "workWater", "(II)V"⟩, 12), (⟨"ButterChurn", "imageAt", "(I)LButterChurn$Image;"⟩, 12), (⟨"ButterChurn", "sheetAt", "(I)LButterChurn$Sheet;"⟩, 12), (⟨"ButterChurn", "imagesThere", "()I"⟩, 12), (⟨"ButterChurnModel", "step", "()V"⟩, 35), (⟨"ButterChurnModel", "byteAt", "(I)I"⟩, 35), (⟨"ButterChurnModel", "fails", "(I)V"⟩, 35), (⟨"ButterChurnModel", "readLine", "()V"⟩, 35), (⟨"ButterChurnModel", "nameHere", "()I"⟩, 35), (⟨"ButterChurnModel", "number", "(II)I"⟩, 35), (⟨"ButterChurnModel", "fills", "(III)V"⟩, 35), (⟨"ButterChurnModel", "isCow", "(I)Z"⟩, 35)]
theorem lw_r2 : ∀ q ∈ lw_privs_2, lw_okq q := List.forall_mem_cons.mpr ⟨lw_p16, List.forall_mem_cons.mpr ⟨lw_p17, List.forall_mem_cons.mpr ⟨lw_p18, List.forall_mem_cons.mpr ⟨lw_p19, List.forall_mem_cons.mpr ⟨lw_p20, List.forall_mem_cons.mpr ⟨lw_p21, List.forall_mem_cons.mpr ⟨lw_p22, List.forall_mem_cons.mpr ⟨lw_p23, List.forall_mem_cons.mpr ⟨lw_p24, List.forall_mem_cons.mpr ⟨lw_p25, List.forall_mem_cons.mpr ⟨lw_p26, List.forall_mem_cons.mpr ⟨lw_p27, List.forall_mem_cons.mpr ⟨lw_p28, List.forall_mem_cons.mpr ⟨lw_p29, List.forall_mem_cons.mpr ⟨lw_p30, List.forall_mem_cons.mpr ⟨lw_p31, fun _ h => absurd h List.not_mem_nil⟩⟩⟩⟩⟩⟩⟩⟩⟩⟩⟩⟩⟩⟩⟩⟩
theorem lw_p32 : lw_okq (⟨"ButterChurnModel", "areCows", "(I)Z"⟩, 35) := ⟨⟨by decide +kernel, by decide +kernel⟩, List.mem_of_getElem? (i := 778) (by decide +kernel), List.mem_of_getElem? (i := 968) (by decide +kernel), List.mem_of_getElem? (i := 969) (by decide +kernel)⟩
theorem lw_p33 : lw_okq (⟨"ButterChurnModel", "awake", "()V"⟩, 35) := ⟨⟨by decide +kernel, by decide +kernel⟩, List.mem_of_getElem? (i := 778) (by decide +kernel), List.mem_of_getElem? (i := 976) (by decide +kernel), List.mem_of_getElem? (i := 977) (by decide +kernel)⟩
theorem lw_p34 : lw_okq (⟨"ButterChurnModel", "turns", "(II)Z"⟩, 35) := ⟨⟨by decide +kernel, by decide +kernel⟩, List.mem_of_getElem? (i := 778) (by decide +kernel), List.mem_of_getElem? (i := 987) (by decide +kernel), List.mem_of_getElem? (i := 988) (by decide +kernel)⟩
theorem lw_p35 : lw_okq (⟨"ButterChurnModel", "isSwollen", "(I)Z"⟩, 35) := ⟨⟨by decide +kernel, by decide +kernel⟩, List.mem_of_getElem? (i := 778) (by decide +kernel), List.mem_of_getElem? (i := 991) (by decide +kernel), List.mem_of_getElem? (i := 992) (by decide +kernel)⟩
theorem lw_p36 : lw_okq (⟨"ButterChurnModel", "joins", "(II)V"⟩, 35) := ⟨⟨by decide +kernel, by decide +kernel⟩, List.mem_of_getElem? (i := 778) (by decide +kernel), List.mem_of_getElem? (i := 995) (by decide +kernel), List.mem_of_getElem? (i := 996) (by decide +kernel)⟩
theorem lw_p37 : lw_okq (⟨"ButterChurnModel", "hardness", "(I)I"⟩, 35) := ⟨⟨by decide +kernel, by decide +kernel⟩, List.mem_of_getElem? (i := 778) (by decide +kernel), List.mem_of_getElem? (i := 999) (by decide +kernel), List.mem_of_getElem? (i := 1000) (by decide +kernel)⟩
theorem lw_p38 : lw_okq (⟨"ButterChurnModel", "fatFrom", "(II)I"⟩, 35) := ⟨⟨by decide +kernel, by decide +kernel⟩, List.mem_of_getElem? (i := 778) (by decide +kernel), List.mem_of_getElem? (i := 1003) (by decide +kernel), List.mem_of_getElem? (i := 1004) (by decide +kernel)⟩
theorem lw_p39 : lw_okq (⟨"ButterChurnModel", "halves", "(I)V"⟩, 35) := ⟨⟨by decide +kernel, by decide +kernel⟩, List.mem_of_getElem? (i := 778) (by decide +kernel), List.mem_of_getElem? (i := 1015) (by decide +kernel), List.mem_of_getElem? (i := 1016) (by decide +kernel)⟩
theorem lw_p40 : lw_okq (⟨"ButterChurnModel", "told", "(II)I"⟩, 35) := ⟨⟨by decide +kernel, by decide +kernel⟩, List.mem_of_getElem? (i := 778) (by decide +kernel), List.mem_of_getElem? (i := 1023) (by decide +kernel), List.mem_of_getElem? (i := 1024) (by decide +kernel)⟩
theorem lw_p41 : lw_okq (⟨"ButterChurnModel", "left", "(I)I"⟩, 35) := ⟨⟨by decide +kernel, by decide +kernel⟩, List.mem_of_getElem? (i := 778) (by decide +kernel), List.mem_of_getElem? (i := 1027) (by decide +kernel), List.mem_of_getElem? (i := 1028) (by decide +kernel)⟩
theorem lw_p42 : lw_okq (⟨"ButterChurnModel", "which", "(I)I"⟩, 35) := ⟨⟨by decide +kernel, by decide +kernel⟩, List.mem_of_getElem? (i := 778) (by decide +kernel), List.mem_of_getElem? (i := 1031) (by decide +kernel), List.mem_of_getElem? (i := 1032) (by decide +kernel)⟩
theorem lw_p43 : lw_okq (⟨"ButterChurnModel", "isOver", "(I)Z"⟩, 35) := ⟨⟨by decide +kernel, by decide +kernel⟩, List.mem_of_getElem? (i := 778) (by decide +kernel), List.mem_of_getElem? (i := 1035) (by decide +kernel), List.mem_of_getElem? (i := 1036) (by decide +kernel)⟩
theorem lw_p44 : lw_okq (⟨"ButterChurnModel", "tillCome", "(II)I"⟩, 35) := ⟨⟨by decide +kernel, by decide +kernel⟩, List.mem_of_getElem? (i := 778) (by decide +kernel), List.mem_of_getElem? (i := 1052) (by decide +kernel), List.mem_of_getElem? (i := 1053) (by decide +kernel)⟩
theorem lw_p45 : lw_okq (⟨"ButterChurnModel", "layPlan", "(I)Z"⟩, 35) := ⟨⟨by decide +kernel, by decide +kernel⟩, List.mem_of_getElem? (i := 778) (by decide +kernel), List.mem_of_getElem? (i := 1061) (by decide +kernel), List.mem_of_getElem? (i := 1062) (by decide +kernel)⟩
theorem lw_p46 : lw_okq (⟨"ButterChurnModel", "isSo", "(II)Z"⟩, 35) := ⟨⟨by decide +kernel, by decide +kernel⟩, List.mem_of_getElem? (i := 778) (by decide +kernel), List.mem_of_getElem? (i := 1085) (by decide +kernel), List.mem_of_getElem? (i := 1086) (by decide +kernel)⟩
theorem lw_p47 : lw_okq (⟨"ButterChurnModel", "copies", "(II)V"⟩, 35) := ⟨⟨by decide +kernel, by decide +kernel⟩, List.mem_of_getElem? (i := 778) (by decide +kernel), List.mem_of_getElem? (i := 1093) (by decide +kernel), List.mem_of_getElem? (i := 1094) (by decide +kernel)⟩
def lw_privs_3 : List (MethodName × Nat) := [(⟨"ButterChurnModel", "areCows", "(I)Z"⟩, 35), (⟨"ButterChurnModel", "awake", "()V"⟩, 35), (⟨"ButterChurnModel", "turns", "(II)Z"⟩, 35), (⟨"ButterChurnModel", "isSwollen", "(I)Z"⟩, 35), (⟨"ButterChurnModel", "joins", "(II)V"⟩, 35), (⟨"ButterChurnModel", "hardness", "(I)I"⟩, 35), (⟨"ButterChurnModel", "fatFrom", "(II)I"⟩, 35), (⟨"ButterChurnModel", "halves", "(I)V"⟩, 35), (⟨"ButterChurnModel", "told", "(II)I"⟩, 35), (⟨"ButterChurnModel", "left", "(I)I"⟩, 35), (⟨"ButterChurnModel", "which", "(I)I"⟩, 35), (⟨"ButterChurnModel", "isOver", "(I)Z"⟩, 35), (⟨"ButterChurnModel", "tillCome", "(II)I"⟩, 35), (⟨"ButterChurnModel", "layPlan", "(I)Z"⟩, 35), (⟨"ButterChurnModel", "isSo", "(II)Z"⟩, 35), (⟨"ButterChurnModel", "copies", "(II)V"⟩, 35)]
theorem lw_r3 : ∀ q ∈ lw_privs_3, lw_okq q := List.forall_mem_cons.mpr ⟨lw_p32, List.forall_mem_cons.mpr ⟨lw_p33, List.forall_mem_cons.mpr ⟨lw_p34, List.forall_mem_cons.mpr ⟨lw_p35, List.forall_mem_cons.mpr ⟨lw_p36, List.forall_mem_cons.mpr ⟨lw_p37, List.forall_mem_cons.mpr ⟨lw_p38, List.forall_mem_cons.mpr ⟨lw_p39, List.forall_mem_cons.mpr ⟨lw_p40, List.forall_mem_cons.mpr ⟨lw_p41, List.forall_mem_cons.mpr ⟨lw_p42, List.forall_mem_cons.mpr ⟨lw_p43, List.forall_mem_cons.mpr ⟨lw_p44, List.forall_mem_cons.mpr ⟨lw_p45, List.forall_mem_cons.mpr ⟨lw_p46, List.forall_mem_cons.mpr ⟨lw_p47, fun _ h => absurd h List.not_mem_nil⟩⟩⟩⟩⟩⟩⟩⟩⟩⟩⟩⟩⟩⟩⟩⟩
theorem lw_p48 : lw_okq (⟨"ButterChurnModel", "layWet", "(II)Z"⟩, 35) := ⟨⟨by decide +kernel, by decide +kernel⟩, List.mem_of_getElem? (i := 778) (by decide +kernel), List.mem_of_getElem? (i := 1129) (by decide +kernel), List.mem_of_getElem? (i := 1130) (by decide +kernel)⟩
def lw_privs_4 : List (MethodName × Nat) := [(⟨"ButterChurnModel", "layWet", "(II)Z"⟩, 35)]
theorem lw_r4 : ∀ q ∈ lw_privs_4, lw_okq q := List.forall_mem_cons.mpr ⟨lw_p48, fun _ h => absurd h List.not_mem_nil⟩
def lw_privs : List (MethodName × Nat) := lw_privs_1 ++ (lw_privs_2 ++ (lw_privs_3 ++ (lw_privs_4)))
def lw_tbl : List Cond := k2_sels lw_privs ++ tables_1
theorem lw_privs_ok : ∀ q ∈ lw_privs, lw_okq q := by
  show ∀ q ∈ lw_privs_1 ++ (lw_privs_2 ++ (lw_privs_3 ++ (lw_privs_4))), lw_okq q
  exact List.forall_mem_append.mpr ⟨lw_r1, List.forall_mem_append.mpr ⟨lw_r2, List.forall_mem_append.mpr ⟨lw_r3, lw_r4⟩⟩⟩
def RX0 : String := "ButterChurn$Best"
def TX0 : u_T := fun k => match k with
  | 0 => ("ButterChurn$Best", "there", "Z", false)
  | 1 => ("ButterChurn$Best", "warmth", "I", false)
  | 2 => ("ButterChurn$Best", "pace", "I", false)
  | 3 => ("ButterChurn$Best", "turns", "I", false)
  | _ => ("ButterChurn$Best", "left", "I", false)
def tyX0 : Nat → FieldType := fun k => match k with
  | 0 => .boolean
  | 1 => .int
  | 2 => .int
  | 3 => .int
  | _ => .int
abbrev wsX00 : List Cond := u_ws RX0 TX0 5
theorem nmX0 : ∀ a, a < 5 → ∀ b, b < 5 → a ≠ b → (TX0 a).2.1 ≠ (TX0 b).2.1 := by decide +kernel
theorem tyX0_ok : ∀ k, k < 5 → parseFieldDescriptor (TX0 k).2.2.1 = some (tyX0 k) := by decide +kernel
abbrev cX0_init : ByteArray := prog_2_method_1_code
def yX0_init : MethodName := ⟨RX0, "<init>", "()V"⟩
abbrev cX0_offer : ByteArray := prog_2_method_2_code
def yX0_offer : MethodName := ⟨RX0, "offer", "(IIII)V"⟩
abbrev cX0_tell : ByteArray := prog_2_method_3_code
def yX0_tell : MethodName := ⟨RX0, "tell", "(I)I"⟩
def RX1 : String := "ButterChurn$Churn"
def TX1 : u_T := fun k => match k with
  | 0 => ("ButterChurn$Churn", "drops", "[I", true)
  | 1 => ("ButterChurn$Churn", "litres", "I", false)
  | 2 => ("ButterChurn$Churn", "warmth", "I", false)
  | 3 => ("ButterChurn$Churn", "hard", "I", false)
  | 4 => ("ButterChurn$Churn", "air", "I", false)
  | 5 => ("ButterChurn$Churn", "turns", "I", false)
  | _ => ("ButterChurn$Churn", "come", "I", false)
def tyX1 : Nat → FieldType := fun k => match k with
  | 0 => .array .int
  | 1 => .int
  | 2 => .int
  | 3 => .int
  | 4 => .int
  | 5 => .int
  | _ => .int
abbrev wsX10 : List Cond := u_ws RX1 TX1 7
theorem nmX1 : ∀ a, a < 7 → ∀ b, b < 7 → a ≠ b → (TX1 a).2.1 ≠ (TX1 b).2.1 := by decide +kernel
theorem tyX1_ok : ∀ k, k < 7 → parseFieldDescriptor (TX1 k).2.2.1 = some (tyX1 k) := by decide +kernel
abbrev cX1_init : ByteArray := prog_3_method_1_code
def yX1_init : MethodName := ⟨RX1, "<init>", "()V"⟩
abbrev cX1_fillWith : ByteArray := prog_3_method_2_code
def yX1_fillWith : MethodName := ⟨RX1, "fillWith", "(LButterChurn$Told;II)V"⟩
abbrev cX1_becomeLike : ByteArray := prog_3_method_3_code
def yX1_becomeLike : MethodName := ⟨RX1, "becomeLike", "(LButterChurn$Churn;)V"⟩
abbrev cX1_halve : ByteArray := prog_3_method_4_code
def yX1_halve : MethodName := ⟨RX1, "halve", "()V"⟩
abbrev cX1_hasCome : ByteArray := prog_3_method_5_code
def yX1_hasCome : MethodName := ⟨RX1, "hasCome", "()Z"⟩
abbrev cX1_isSwollen : ByteArray := prog_3_method_6_code
def yX1_isSwollen : MethodName := ⟨RX1, "isSwollen", "(LButterChurn$Told;)Z"⟩
abbrev cX1_hardness : ByteArray := prog_3_method_7_code
def yX1_hardness : MethodName := ⟨RX1, "hardness", "(LButterChurn$Told;)I"⟩
abbrev cX1_turnOnce : ByteArray := prog_3_method_8_code
def yX1_turnOnce : MethodName := ⟨RX1, "turnOnce", "(LButterChurn$Told;I)Z"⟩
abbrev cX1_beatIn : ByteArray := prog_3_method_9_code
def yX1_beatIn : MethodName := ⟨RX1, "beatIn", "(LButterChurn$Told;I)V"⟩
abbrev cX1_rate : ByteArray := prog_3_method_10_code
def yX1_rate : MethodName := ⟨RX1, "rate", "(LButterChurn$Told;I)I"⟩
abbrev cX1_joinDrops : ByteArray := prog_3_method_11_code
def yX1_joinDrops : MethodName := ⟨RX1, "joinDrops", "(I)V"⟩
abbrev cX1_breakIfDue : ByteArray := prog_3_method_12_code
def yX1_breakIfDue : MethodName := ⟨RX1, "breakIfDue", "(LButterChurn$Told;)V"⟩
abbrev cX1_fatFrom : ByteArray := prog_3_method_13_code
def yX1_fatFrom : MethodName := ⟨RX1, "fatFrom", "(I)I"⟩
abbrev cX1_left : ByteArray := prog_3_method_14_code
def yX1_left : MethodName := ⟨RX1, "left", "(LButterChurn$Told;)I"⟩
abbrev cX1_isMostlyGreatest : ByteArray := prog_3_method_15_code
def yX1_isMostlyGreatest : MethodName := ⟨RX1, "isMostlyGreatest", "()Z"⟩
abbrev cX1_dropsOf : ByteArray := prog_3_method_16_code
def yX1_dropsOf : MethodName := ⟨RX1, "dropsOf", "(I)I"⟩
abbrev cX1_tell : ByteArray := prog_3_method_17_code
def yX1_tell : MethodName := ⟨RX1, "tell", "(LButterChurn$Told;I)I"⟩
abbrev cX1_outcome : ByteArray := prog_3_method_18_code
def yX1_outcome : MethodName := ⟨RX1, "outcome", "(LButterChurn$Told;)I"⟩
def RX2 : String := "ButterChurn$Image"
def TX2 : u_T := fun k => match k with
  | 0 => ("ButterChurn$Image", "churn", "LButterChurn$Churn;", true)
  | _ => ("ButterChurn$Image", "there", "Z", false)
def tyX2 : Nat → FieldType := fun k => match k with
  | 0 => .object "ButterChurn$Churn"
  | _ => .boolean
abbrev wsX20 : List Cond := u_ws RX2 TX2 2
theorem nmX2 : ∀ a, a < 2 → ∀ b, b < 2 → a ≠ b → (TX2 a).2.1 ≠ (TX2 b).2.1 := by decide +kernel
theorem tyX2_ok : ∀ k, k < 2 → parseFieldDescriptor (TX2 k).2.2.1 = some (tyX2 k) := by decide +kernel
abbrev cX2_init : ByteArray := prog_4_method_1_code
def yX2_init : MethodName := ⟨RX2, "<init>", "()V"⟩
def RX3 : String := "ButterChurn$Reading"
def TX3 : u_T := fun k => match k with
  | 0 => ("ButterChurn$Reading", "tape", "LButterChurn$Tape;", true)
  | 1 => ("ButterChurn$Reading", "draft", "LButterChurn$Told;", true)
  | 2 => ("ButterChurn$Reading", "line", "I", false)
  | 3 => ("ButterChurn$Reading", "numbersRead", "I", false)
  | 4 => ("ButterChurn$Reading", "linesRead", "I", false)
  | 5 => ("ButterChurn$Reading", "linesMet", "I", false)
  | 6 => ("ButterChurn$Reading", "fault", "I", false)
  | _ => ("ButterChurn$Reading", "faultPlace", "I", false)
def tyX3 : Nat → FieldType := fun k => match k with
  | 0 => .object "ButterChurn$Tape"
  | 1 => .object "ButterChurn$Told"
  | 2 => .int
  | 3 => .int
  | 4 => .int
  | 5 => .int
  | 6 => .int
  | _ => .int
abbrev wsX30 : List Cond := u_ws RX3 TX3 8
theorem nmX3 : ∀ a, a < 8 → ∀ b, b < 8 → a ≠ b → (TX3 a).2.1 ≠ (TX3 b).2.1 := by decide +kernel
theorem tyX3_ok : ∀ k, k < 8 → parseFieldDescriptor (TX3 k).2.2.1 = some (tyX3 k) := by decide +kernel
abbrev cX3_init : ByteArray := prog_5_method_1_code
def yX3_init : MethodName := ⟨RX3, "<init>", "()V"⟩
abbrev cX3_readAll : ByteArray := prog_5_method_2_code
def yX3_readAll : MethodName := ⟨RX3, "readAll", "()I"⟩
abbrev cX3_takeToken : ByteArray := prog_5_method_3_code
def yX3_takeToken : MethodName := ⟨RX3, "takeToken", "()V"⟩
abbrev cX3_beginLine : ByteArray := prog_5_method_4_code
def yX3_beginLine : MethodName := ⟨RX3, "beginLine", "()V"⟩
abbrev cX3_lineNamed : ByteArray := prog_5_method_5_code
def yX3_lineNamed : MethodName := ⟨RX3, "lineNamed", "()I"⟩
abbrev cX3_takeNumber : ByteArray := prog_5_method_6_code
def yX3_takeNumber : MethodName := ⟨RX3, "takeNumber", "()V"⟩
abbrev cX3_endLine : ByteArray := prog_5_method_7_code
def yX3_endLine : MethodName := ⟨RX3, "endLine", "()V"⟩
abbrev cX3_refuse : ByteArray := prog_5_method_8_code
def yX3_refuse : MethodName := ⟨RX3, "refuse", "(I)V"⟩
def RX4 : String := "ButterChurn$Sheet"
def TX4 : u_T := fun k => match k with
  | 0 => ("ButterChurn$Sheet", "cells", "[I", true)
  | 1 => ("ButterChurn$Sheet", "lane", "I", false)
  | _ => ("ButterChurn$Sheet", "size", "I", false)
def tyX4 : Nat → FieldType := fun k => match k with
  | 0 => .array .int
  | 1 => .int
  | _ => .int
abbrev wsX40 : List Cond := u_ws RX4 TX4 3
theorem nmX4 : ∀ a, a < 3 → ∀ b, b < 3 → a ≠ b → (TX4 a).2.1 ≠ (TX4 b).2.1 := by decide +kernel
theorem tyX4_ok : ∀ k, k < 3 → parseFieldDescriptor (TX4 k).2.2.1 = some (tyX4 k) := by decide +kernel
abbrev cX4_init : ByteArray := prog_6_method_1_code
def yX4_init : MethodName := ⟨RX4, "<init>", "()V"⟩
abbrev cX4_isThere : ByteArray := prog_6_method_2_code
def yX4_isThere : MethodName := ⟨RX4, "isThere", "()Z"⟩
abbrev cX4_renew : ByteArray := prog_6_method_3_code
def yX4_renew : MethodName := ⟨RX4, "renew", "(II)V"⟩
abbrev cX4_put : ByteArray := prog_6_method_4_code
def yX4_put : MethodName := ⟨RX4, "put", "(II)I"⟩
abbrev cX4_cellAt : ByteArray := prog_6_method_5_code
def yX4_cellAt : MethodName := ⟨RX4, "cellAt", "(I)I"⟩
abbrev cX4_pairsWhole : ByteArray := prog_6_method_6_code
def yX4_pairsWhole : MethodName := ⟨RX4, "pairsWhole", "(III)I"⟩
abbrev cX4_faultAs : ByteArray := prog_6_method_7_code
def yX4_faultAs : MethodName := ⟨RX4, "faultAs", "(I)I"⟩
def RX5 : String := "ButterChurn$Tape"
def TX5 : u_T := fun k => match k with
  | 0 => ("ButterChurn$Tape", "bytes", "[B", true)
  | 1 => ("ButterChurn$Tape", "length", "I", false)
  | 2 => ("ButterChurn$Tape", "kind", "I", false)
  | 3 => ("ButterChurn$Tape", "place", "I", false)
  | 4 => ("ButterChurn$Tape", "behind", "I", false)
  | _ => ("ButterChurn$Tape", "number", "I", false)
def tyX5 : Nat → FieldType := fun k => match k with
  | 0 => .array .byte
  | 1 => .int
  | 2 => .int
  | 3 => .int
  | 4 => .int
  | _ => .int
abbrev wsX50 : List Cond := u_ws RX5 TX5 6
theorem nmX5 : ∀ a, a < 6 → ∀ b, b < 6 → a ≠ b → (TX5 a).2.1 ≠ (TX5 b).2.1 := by decide +kernel
theorem tyX5_ok : ∀ k, k < 6 → parseFieldDescriptor (TX5 k).2.2.1 = some (tyX5 k) := by decide +kernel
abbrev cX5_init : ByteArray := prog_7_method_1_code
def yX5_init : MethodName := ⟨RX5, "<init>", "()V"⟩
abbrev cX5_put : ByteArray := prog_7_method_2_code
def yX5_put : MethodName := ⟨RX5, "put", "(J)Z"⟩
abbrev cX5_byteAt : ByteArray := prog_7_method_3_code
def yX5_byteAt : MethodName := ⟨RX5, "byteAt", "(I)I"⟩
abbrev cX5_rewind : ByteArray := prog_7_method_4_code
def yX5_rewind : MethodName := ⟨RX5, "rewind", "()V"⟩
abbrev cX5_advance : ByteArray := prog_7_method_5_code
def yX5_advance : MethodName := ⟨RX5, "advance", "()V"⟩
abbrev cX5_takeNumber : ByteArray := prog_7_method_6_code
def yX5_takeNumber : MethodName := ⟨RX5, "takeNumber", "()V"⟩
abbrev cX5_kindAt : ByteArray := prog_7_method_7_code
def yX5_kindAt : MethodName := ⟨RX5, "kindAt", "(I)I"⟩
abbrev cX5_spells : ByteArray := prog_7_method_8_code
def yX5_spells : MethodName := ⟨RX5, "spells", "(Ljava/lang/String;)Z"⟩
def RX6 : String := "ButterChurn$Told"
def TX6 : u_T := fun k => match k with
  | 0 => ("ButterChurn$Told", "rules", "[I", true)
  | 1 => ("ButterChurn$Told", "litreDrops", "[I", true)
  | 2 => ("ButterChurn$Told", "litres", "[I", true)
  | 3 => ("ButterChurn$Told", "hards", "[I", true)
  | _ => ("ButterChurn$Told", "cows", "I", false)
def tyX6 : Nat → FieldType := fun k => match k with
  | 0 => .array .int
  | 1 => .array .int
  | 2 => .array .int
  | 3 => .array .int
  | _ => .int
abbrev wsX60 : List Cond := u_ws RX6 TX6 5
theorem nmX6 : ∀ a, a < 5 → ∀ b, b < 5 → a ≠ b → (TX6 a).2.1 ≠ (TX6 b).2.1 := by decide +kernel
theorem tyX6_ok : ∀ k, k < 5 → parseFieldDescriptor (TX6 k).2.2.1 = some (tyX6 k) := by decide +kernel
abbrev cX6_init : ByteArray := prog_8_method_1_code
def yX6_init : MethodName := ⟨RX6, "<init>", "()V"⟩
abbrev cX6_becomeFirst : ByteArray := prog_8_method_2_code
def yX6_becomeFirst : MethodName := ⟨RX6, "becomeFirst", "()V"⟩
abbrev cX6_becomeLike : ByteArray := prog_8_method_3_code
def yX6_becomeLike : MethodName := ⟨RX6, "becomeLike", "(LButterChurn$Told;)V"⟩
abbrev cX6_hasAllCows : ByteArray := prog_8_method_4_code
def yX6_hasAllCows : MethodName := ⟨RX6, "hasAllCows", "()Z"⟩
abbrev cX6_put : ByteArray := prog_8_method_5_code
def yX6_put : MethodName := ⟨RX6, "put", "(II)V"⟩
abbrev cX6_base : ByteArray := prog_8_method_6_code
def yX6_base : MethodName := ⟨RX6, "base", "()I"⟩
abbrev cX6_isGood : ByteArray := prog_8_method_7_code
def yX6_isGood : MethodName := ⟨RX6, "isGood", "(I)Z"⟩
abbrev cX6_hasCow : ByteArray := prog_8_method_8_code
def yX6_hasCow : MethodName := ⟨RX6, "hasCow", "(I)Z"⟩
abbrev cX6_allCows : ByteArray := prog_8_method_9_code
def yX6_allCows : MethodName := ⟨RX6, "allCows", "()I"⟩
abbrev cX6_hasCows : ByteArray := prog_8_method_10_code
def yX6_hasCows : MethodName := ⟨RX6, "hasCows", "(I)Z"⟩
abbrev cX6_litresOf : ByteArray := prog_8_method_11_code
def yX6_litresOf : MethodName := ⟨RX6, "litresOf", "(I)I"⟩
abbrev cX6_hardOf : ByteArray := prog_8_method_12_code
def yX6_hardOf : MethodName := ⟨RX6, "hardOf", "(I)I"⟩
def RX7 : String := "ButterChurn"
def TX7 : u_T := fun k => match k with
  | 0 => ("ButterChurn", "told", "LButterChurn$Told;", true)
  | 1 => ("ButterChurn", "reading", "LButterChurn$Reading;", true)
  | 2 => ("ButterChurn", "churn", "LButterChurn$Churn;", true)
  | 3 => ("ButterChurn", "trial", "LButterChurn$Churn;", true)
  | 4 => ("ButterChurn", "best", "LButterChurn$Best;", true)
  | 5 => ("ButterChurn", "images", "[LButterChurn$Image;", true)
  | 6 => ("ButterChurn", "sheets", "[LButterChurn$Sheet;", true)
  | 7 => ("ButterChurn", "seenCows", "[I", true)
  | 8 => ("ButterChurn", "seenTurns", "[I", true)
  | 9 => ("ButterChurn", "water", "[I", true)
  | 10 => ("ButterChurn", "seen", "I", false)
  | _ => ("ButterChurn", "tornFault", "I", false)
def tyX7 : Nat → FieldType := fun k => match k with
  | 0 => .object "ButterChurn$Told"
  | 1 => .object "ButterChurn$Reading"
  | 2 => .object "ButterChurn$Churn"
  | 3 => .object "ButterChurn$Churn"
  | 4 => .object "ButterChurn$Best"
  | 5 => .array (.object "ButterChurn$Image")
  | 6 => .array (.object "ButterChurn$Sheet")
  | 7 => .array .int
  | 8 => .array .int
  | 9 => .array .int
  | 10 => .int
  | _ => .int
abbrev wsX70 : List Cond := u_ws RX7 TX7 12
theorem nmX7 : ∀ a, a < 12 → ∀ b, b < 12 → a ≠ b → (TX7 a).2.1 ≠ (TX7 b).2.1 := by decide +kernel
theorem tyX7_ok : ∀ k, k < 12 → parseFieldDescriptor (TX7 k).2.2.1 = some (tyX7 k) := by decide +kernel
abbrev cX7_init : ByteArray := prog_1_method_1_code
def yX7_init : MethodName := ⟨RX7, "<init>", "()V"⟩
abbrev cX7_feed : ByteArray := prog_1_method_2_code
def yX7_feed : MethodName := ⟨RX7, "feed", "(J)I"⟩
abbrev cX7_end : ByteArray := prog_1_method_3_code
def yX7_end : MethodName := ⟨RX7, "end", "(I)I"⟩
abbrev cX7_dairy : ByteArray := prog_1_method_4_code
def yX7_dairy : MethodName := ⟨RX7, "dairy", "()I"⟩
abbrev cX7_fault : ByteArray := prog_1_method_5_code
def yX7_fault : MethodName := ⟨RX7, "fault", "()I"⟩
abbrev cX7_rule : ByteArray := prog_1_method_6_code
def yX7_rule : MethodName := ⟨RX7, "rule", "(I)I"⟩
abbrev cX7_cow : ByteArray := prog_1_method_7_code
def yX7_cow : MethodName := ⟨RX7, "cow", "(II)I"⟩
abbrev cX7_feeds : ByteArray := prog_1_method_8_code
def yX7_feeds : MethodName := ⟨RX7, "feeds", "(II)I"⟩
abbrev cX7_fill : ByteArray := prog_1_method_9_code
def yX7_fill : MethodName := ⟨RX7, "fill", "(II)I"⟩
abbrev cX7_turn : ByteArray := prog_1_method_10_code
def yX7_turn : MethodName := ⟨RX7, "turn", "(II)I"⟩
abbrev cX7_warm : ByteArray := prog_1_method_11_code
def yX7_warm : MethodName := ⟨RX7, "warm", "(I)I"⟩
abbrev cX7_half : ByteArray := prog_1_method_12_code
def yX7_half : MethodName := ⟨RX7, "half", "()I"⟩
abbrev cX7_now : ByteArray := prog_1_method_13_code
def yX7_now : MethodName := ⟨RX7, "now", "(I)I"⟩
abbrev cX7_drops : ByteArray := prog_1_method_14_code
def yX7_drops : MethodName := ⟨RX7, "drops", "(I)I"⟩
abbrev cX7_run : ByteArray := prog_1_method_15_code
def yX7_run : MethodName := ⟨RX7, "run", "(IIIII)I"⟩
abbrev cX7_comes : ByteArray := prog_1_method_16_code
def yX7_comes : MethodName := ⟨RX7, "comes", "(III)I"⟩
abbrev cX7_plan : ByteArray := prog_1_method_17_code
def yX7_plan : MethodName := ⟨RX7, "plan", "(II)I"⟩
abbrev cX7_without : ByteArray := prog_1_method_18_code
def yX7_without : MethodName := ⟨RX7, "without", "(I)I"⟩
abbrev cX7_saw : ByteArray := prog_1_method_19_code
def yX7_saw : MethodName := ⟨RX7, "saw", "(II)I"⟩
abbrev cX7_forget : ByteArray := prog_1_method_20_code
def yX7_forget : MethodName := ⟨RX7, "forget", "()I"⟩
abbrev cX7_why : ByteArray := prog_1_method_21_code
def yX7_why : MethodName := ⟨RX7, "why", "(I)I"⟩
abbrev cX7_next : ByteArray := prog_1_method_22_code
def yX7_next : MethodName := ⟨RX7, "next", "(II)I"⟩
abbrev cX7_over : ByteArray := prog_1_method_23_code
def yX7_over : MethodName := ⟨RX7, "over", "(I)I"⟩
abbrev cX7_wash : ByteArray := prog_1_method_24_code
def yX7_wash : MethodName := ⟨RX7, "wash", "(IIII)J"⟩
abbrev cX7_washes : ByteArray := prog_1_method_25_code
def yX7_washes : MethodName := ⟨RX7, "washes", "(IIII)I"⟩
abbrev cX7_split : ByteArray := prog_1_method_26_code
def yX7_split : MethodName := ⟨RX7, "split", "(II)I"⟩
abbrev cX7_worked : ByteArray := prog_1_method_27_code
def yX7_worked : MethodName := ⟨RX7, "worked", "(III)I"⟩
abbrev cX7_keeps : ByteArray := prog_1_method_28_code
def yX7_keeps : MethodName := ⟨RX7, "keeps", "(II)I"⟩
abbrev cX7_rod : ByteArray := prog_1_method_29_code
def yX7_rod : MethodName := ⟨RX7, "rod", "(IIIII)I"⟩
abbrev cX7_near : ByteArray := prog_1_method_30_code
def yX7_near : MethodName := ⟨RX7, "near", "(IIIII)I"⟩
abbrev cX7_witch : ByteArray := prog_1_method_31_code
def yX7_witch : MethodName := ⟨RX7, "witch", "(IIIII)J"⟩
abbrev cX7_keep : ByteArray := prog_1_method_32_code
def yX7_keep : MethodName := ⟨RX7, "keep", "(I)I"⟩
abbrev cX7_back : ByteArray := prog_1_method_33_code
def yX7_back : MethodName := ⟨RX7, "back", "(I)I"⟩
abbrev cX7_sheet : ByteArray := prog_1_method_34_code
def yX7_sheet : MethodName := ⟨RX7, "sheet", "(III)I"⟩
abbrev cX7_lay : ByteArray := prog_1_method_35_code
def yX7_lay : MethodName := ⟨RX7, "lay", "(III)I"⟩
abbrev cX7_read : ByteArray := prog_1_method_36_code
def yX7_read : MethodName := ⟨RX7, "read", "(IIII)I"⟩
abbrev cX7_torn : ByteArray := prog_1_method_37_code
def yX7_torn : MethodName := ⟨RX7, "torn", "()I"⟩
abbrev cX7_count : ByteArray := prog_1_method_38_code
def yX7_count : MethodName := ⟨RX7, "count", "(I)I"⟩
abbrev cX7_outside : ByteArray := prog_1_method_39_code
def yX7_outside : MethodName := ⟨RX7, "outside", "(III)Z"⟩
abbrev cX7_isBadTurn : ByteArray := prog_1_method_40_code
def yX7_isBadTurn : MethodName := ⟨RX7, "isBadTurn", "(II)Z"⟩
abbrev cX7_isBadWash : ByteArray := prog_1_method_41_code
def yX7_isBadWash : MethodName := ⟨RX7, "isBadWash", "(II)Z"⟩
abbrev cX7_isBadShare : ByteArray := prog_1_method_42_code
def yX7_isBadShare : MethodName := ⟨RX7, "isBadShare", "(II)Z"⟩
abbrev cX7_isBadWater : ByteArray := prog_1_method_43_code
def yX7_isBadWater : MethodName := ⟨RX7, "isBadWater", "(II)Z"⟩
abbrev cX7_isBadRod : ByteArray := prog_1_method_44_code
def yX7_isBadRod : MethodName := ⟨RX7, "isBadRod", "(III)Z"⟩
abbrev cX7_isBadRun : ByteArray := prog_1_method_45_code
def yX7_isBadRun : MethodName := ⟨RX7, "isBadRun", "(III)Z"⟩
abbrev cX7_turnChurn : ByteArray := prog_1_method_46_code
def yX7_turnChurn : MethodName := ⟨RX7, "turnChurn", "(II)I"⟩
abbrev cX7_turnTrialTillCome : ByteArray := prog_1_method_47_code
def yX7_turnTrialTillCome : MethodName := ⟨RX7, "turnTrialTillCome", "(II)I"⟩
abbrev cX7_findBest : ByteArray := prog_1_method_48_code
def yX7_findBest : MethodName := ⟨RX7, "findBest", "(I)V"⟩
abbrev cX7_isAsSeen : ByteArray := prog_1_method_49_code
def yX7_isAsSeen : MethodName := ⟨RX7, "isAsSeen", "(II)Z"⟩
abbrev cX7_tryDeed : ByteArray := prog_1_method_50_code
def yX7_tryDeed : MethodName := ⟨RX7, "tryDeed", "(I)V"⟩
abbrev cX7_workWater : ByteArray := prog_1_method_51_code
def yX7_workWater : MethodName := ⟨RX7, "workWater", "(II)V"⟩
abbrev cX7_chancesAbove : ByteArray := prog_1_method_52_code
def yX7_chancesAbove : MethodName := ⟨RX7, "chancesAbove", "(IIII)I"⟩
abbrev cX7_imageAt : ByteArray := prog_1_method_53_code
def yX7_imageAt : MethodName := ⟨RX7, "imageAt", "(I)LButterChurn$Image;"⟩
abbrev cX7_sheetAt : ByteArray := prog_1_method_54_code
def yX7_sheetAt : MethodName := ⟨RX7, "sheetAt", "(I)LButterChurn$Sheet;"⟩
abbrev cX7_cellsOf : ByteArray := prog_1_method_55_code
def yX7_cellsOf : MethodName := ⟨RX7, "cellsOf", "(LButterChurn$Sheet;)I"⟩
abbrev cX7_imagesThere : ByteArray := prog_1_method_56_code
def yX7_imagesThere : MethodName := ⟨RX7, "imagesThere", "()I"⟩
abbrev cX7_power : ByteArray := prog_1_method_57_code
def yX7_power : MethodName := ⟨RX7, "power", "(JI)J"⟩
abbrev cX7_lowest : ByteArray := prog_1_method_58_code
def yX7_lowest : MethodName := ⟨RX7, "lowest", "(JJI)J"⟩
def RX8 : String := "ButterChurnModel"
def TX8 : u_T := fun k => match k with
  | 0 => ("ButterChurnModel", "tape", "[I", true)
  | 1 => ("ButterChurnModel", "taped", "I", false)
  | 2 => ("ButterChurnModel", "fault", "I", false)
  | 3 => ("ButterChurnModel", "broken", "I", false)
  | 4 => ("ButterChurnModel", "brokenAt", "I", false)
  | 5 => ("ButterChurnModel", "spot", "I", false)
  | 6 => ("ButterChurnModel", "here", "I", false)
  | 7 => ("ButterChurnModel", "token", "I", false)
  | 8 => ("ButterChurnModel", "value", "I", false)
  | 9 => ("ButterChurnModel", "cuts", "[I", true)
  | 10 => ("ButterChurnModel", "letters", "[I", true)
  | 11 => ("ButterChurnModel", "from", "[I", true)
  | 12 => ("ButterChurnModel", "to", "[I", true)
  | 13 => ("ButterChurnModel", "low", "[I", true)
  | 14 => ("ButterChurnModel", "top", "[I", true)
  | 15 => ("ButterChurnModel", "plain", "[I", true)
  | 16 => ("ButterChurnModel", "rules", "[I", true)
  | 17 => ("ButterChurnModel", "cows", "[I", true)
  | 18 => ("ButterChurnModel", "cowMany", "I", false)
  | 19 => ("ButterChurnModel", "readRules", "[I", true)
  | 20 => ("ButterChurnModel", "readCows", "[I", true)
  | 21 => ("ButterChurnModel", "readMany", "I", false)
  | 22 => ("ButterChurnModel", "toldOnes", "I", false)
  | 23 => ("ButterChurnModel", "state", "[I", true)
  | 24 => ("ButterChurnModel", "isAwake", "Z", false)
  | 25 => ("ButterChurnModel", "pairs", "[I", true)
  | 26 => ("ButterChurnModel", "best", "[I", true)
  | 27 => ("ButterChurnModel", "seen", "[I", true)
  | 28 => ("ButterChurnModel", "seenMany", "I", false)
  | 29 => ("ButterChurnModel", "wet", "[I", true)
  | 30 => ("ButterChurnModel", "isKept", "[Z", true)
  | 31 => ("ButterChurnModel", "lanes", "[I", true)
  | 32 => ("ButterChurnModel", "lengths", "[I", true)
  | 33 => ("ButterChurnModel", "cells", "[I", true)
  | _ => ("ButterChurnModel", "torn", "I", false)
def tyX8 : Nat → FieldType := fun k => match k with
  | 0 => .array .int
  | 1 => .int
  | 2 => .int
  | 3 => .int
  | 4 => .int
  | 5 => .int
  | 6 => .int
  | 7 => .int
  | 8 => .int
  | 9 => .array .int
  | 10 => .array .int
  | 11 => .array .int
  | 12 => .array .int
  | 13 => .array .int
  | 14 => .array .int
  | 15 => .array .int
  | 16 => .array .int
  | 17 => .array .int
  | 18 => .int
  | 19 => .array .int
  | 20 => .array .int
  | 21 => .int
  | 22 => .int
  | 23 => .array .int
  | 24 => .boolean
  | 25 => .array .int
  | 26 => .array .int
  | 27 => .array .int
  | 28 => .int
  | 29 => .array .int
  | 30 => .array .boolean
  | 31 => .array .int
  | 32 => .array .int
  | 33 => .array .int
  | _ => .int
abbrev wsX80 : List Cond := u_ws RX8 TX8 35
theorem nmX8 : ∀ a, a < 35 → ∀ b, b < 35 → a ≠ b → (TX8 a).2.1 ≠ (TX8 b).2.1 := by decide +kernel
theorem tyX8_ok : ∀ k, k < 35 → parseFieldDescriptor (TX8 k).2.2.1 = some (tyX8 k) := by decide +kernel
abbrev cX8_init : ByteArray := prog_10_method_1_code
def yX8_init : MethodName := ⟨RX8, "<init>", "()V"⟩
abbrev cX8_in : ByteArray := prog_10_method_3_code
def yX8_in : MethodName := ⟨RX8, "in", "(JJJ)Z"⟩
abbrev cX8_feed : ByteArray := prog_10_method_4_code
def yX8_feed : MethodName := ⟨RX8, "feed", "(J)I"⟩
abbrev cX8_end : ByteArray := prog_10_method_5_code
def yX8_end : MethodName := ⟨RX8, "end", "(I)I"⟩
abbrev cX8_byteAt : ByteArray := prog_10_method_6_code
def yX8_byteAt : MethodName := ⟨RX8, "byteAt", "(I)I"⟩
abbrev cX8_fails : ByteArray := prog_10_method_7_code
def yX8_fails : MethodName := ⟨RX8, "fails", "(I)V"⟩
abbrev cX8_nameHere : ByteArray := prog_10_method_8_code
def yX8_nameHere : MethodName := ⟨RX8, "nameHere", "()I"⟩
abbrev cX8_step : ByteArray := prog_10_method_9_code
def yX8_step : MethodName := ⟨RX8, "step", "()V"⟩
abbrev cX8_number : ByteArray := prog_10_method_10_code
def yX8_number : MethodName := ⟨RX8, "number", "(II)I"⟩
abbrev cX8_readLine : ByteArray := prog_10_method_11_code
def yX8_readLine : MethodName := ⟨RX8, "readLine", "()V"⟩
abbrev cX8_dairy : ByteArray := prog_10_method_12_code
def yX8_dairy : MethodName := ⟨RX8, "dairy", "()I"⟩
abbrev cX8_fault : ByteArray := prog_10_method_13_code
def yX8_fault : MethodName := ⟨RX8, "fault", "()I"⟩
abbrev cX8_rule : ByteArray := prog_10_method_14_code
def yX8_rule : MethodName := ⟨RX8, "rule", "(I)I"⟩
abbrev cX8_isCow : ByteArray := prog_10_method_15_code
def yX8_isCow : MethodName := ⟨RX8, "isCow", "(I)Z"⟩
abbrev cX8_cow : ByteArray := prog_10_method_16_code
def yX8_cow : MethodName := ⟨RX8, "cow", "(II)I"⟩
abbrev cX8_feeds : ByteArray := prog_10_method_17_code
def yX8_feeds : MethodName := ⟨RX8, "feeds", "(II)I"⟩
abbrev cX8_awake : ByteArray := prog_10_method_18_code
def yX8_awake : MethodName := ⟨RX8, "awake", "()V"⟩
abbrev cX8_copies : ByteArray := prog_10_method_19_code
def yX8_copies : MethodName := ⟨RX8, "copies", "(II)V"⟩
abbrev cX8_fills : ByteArray := prog_10_method_20_code
def yX8_fills : MethodName := ⟨RX8, "fills", "(III)V"⟩
abbrev cX8_hardness : ByteArray := prog_10_method_21_code
def yX8_hardness : MethodName := ⟨RX8, "hardness", "(I)I"⟩
abbrev cX8_fatFrom : ByteArray := prog_10_method_22_code
def yX8_fatFrom : MethodName := ⟨RX8, "fatFrom", "(II)I"⟩
abbrev cX8_isSwollen : ByteArray := prog_10_method_23_code
def yX8_isSwollen : MethodName := ⟨RX8, "isSwollen", "(I)Z"⟩
abbrev cX8_joins : ByteArray := prog_10_method_24_code
def yX8_joins : MethodName := ⟨RX8, "joins", "(II)V"⟩
abbrev cX8_turns : ByteArray := prog_10_method_25_code
def yX8_turns : MethodName := ⟨RX8, "turns", "(II)Z"⟩
abbrev cX8_isWarm : ByteArray := prog_10_method_26_code
def yX8_isWarm : MethodName := ⟨RX8, "isWarm", "(I)Z"⟩
abbrev cX8_isPace : ByteArray := prog_10_method_27_code
def yX8_isPace : MethodName := ⟨RX8, "isPace", "(I)Z"⟩
abbrev cX8_areCows : ByteArray := prog_10_method_28_code
def yX8_areCows : MethodName := ⟨RX8, "areCows", "(I)Z"⟩
abbrev cX8_fill : ByteArray := prog_10_method_29_code
def yX8_fill : MethodName := ⟨RX8, "fill", "(II)I"⟩
abbrev cX8_turn : ByteArray := prog_10_method_30_code
def yX8_turn : MethodName := ⟨RX8, "turn", "(II)I"⟩
abbrev cX8_warm : ByteArray := prog_10_method_31_code
def yX8_warm : MethodName := ⟨RX8, "warm", "(I)I"⟩
abbrev cX8_halves : ByteArray := prog_10_method_32_code
def yX8_halves : MethodName := ⟨RX8, "halves", "(I)V"⟩
abbrev cX8_half : ByteArray := prog_10_method_33_code
def yX8_half : MethodName := ⟨RX8, "half", "()I"⟩
abbrev cX8_isOver : ByteArray := prog_10_method_34_code
def yX8_isOver : MethodName := ⟨RX8, "isOver", "(I)Z"⟩
abbrev cX8_left : ByteArray := prog_10_method_35_code
def yX8_left : MethodName := ⟨RX8, "left", "(I)I"⟩
abbrev cX8_which : ByteArray := prog_10_method_36_code
def yX8_which : MethodName := ⟨RX8, "which", "(I)I"⟩
abbrev cX8_told : ByteArray := prog_10_method_37_code
def yX8_told : MethodName := ⟨RX8, "told", "(II)I"⟩
abbrev cX8_now : ByteArray := prog_10_method_38_code
def yX8_now : MethodName := ⟨RX8, "now", "(I)I"⟩
abbrev cX8_drops : ByteArray := prog_10_method_39_code
def yX8_drops : MethodName := ⟨RX8, "drops", "(I)I"⟩
abbrev cX8_run : ByteArray := prog_10_method_40_code
def yX8_run : MethodName := ⟨RX8, "run", "(IIIII)I"⟩
abbrev cX8_tillCome : ByteArray := prog_10_method_41_code
def yX8_tillCome : MethodName := ⟨RX8, "tillCome", "(II)I"⟩
abbrev cX8_comes : ByteArray := prog_10_method_42_code
def yX8_comes : MethodName := ⟨RX8, "comes", "(III)I"⟩
abbrev cX8_layPlan : ByteArray := prog_10_method_43_code
def yX8_layPlan : MethodName := ⟨RX8, "layPlan", "(I)Z"⟩
abbrev cX8_plan : ByteArray := prog_10_method_44_code
def yX8_plan : MethodName := ⟨RX8, "plan", "(II)I"⟩
abbrev cX8_bitsOf : ByteArray := prog_10_method_45_code
def yX8_bitsOf : MethodName := ⟨RX8, "bitsOf", "(I)I"⟩
abbrev cX8_without : ByteArray := prog_10_method_46_code
def yX8_without : MethodName := ⟨RX8, "without", "(I)I"⟩
abbrev cX8_saw : ByteArray := prog_10_method_47_code
def yX8_saw : MethodName := ⟨RX8, "saw", "(II)I"⟩
abbrev cX8_forget : ByteArray := prog_10_method_48_code
def yX8_forget : MethodName := ⟨RX8, "forget", "()I"⟩
abbrev cX8_isSo : ByteArray := prog_10_method_49_code
def yX8_isSo : MethodName := ⟨RX8, "isSo", "(II)Z"⟩
abbrev cX8_why : ByteArray := prog_10_method_50_code
def yX8_why : MethodName := ⟨RX8, "why", "(I)I"⟩
abbrev cX8_next : ByteArray := prog_10_method_51_code
def yX8_next : MethodName := ⟨RX8, "next", "(II)I"⟩
abbrev cX8_over : ByteArray := prog_10_method_52_code
def yX8_over : MethodName := ⟨RX8, "over", "(I)I"⟩
abbrev cX8_lowest : ByteArray := prog_10_method_53_code
def yX8_lowest : MethodName := ⟨RX8, "lowest", "(JJI)J"⟩
abbrev cX8_power : ByteArray := prog_10_method_54_code
def yX8_power : MethodName := ⟨RX8, "power", "(JI)J"⟩
abbrev cX8_isWash : ByteArray := prog_10_method_55_code
def yX8_isWash : MethodName := ⟨RX8, "isWash", "(II)Z"⟩
abbrev cX8_wash : ByteArray := prog_10_method_56_code
def yX8_wash : MethodName := ⟨RX8, "wash", "(IIII)J"⟩
abbrev cX8_washes : ByteArray := prog_10_method_57_code
def yX8_washes : MethodName := ⟨RX8, "washes", "(IIII)I"⟩
abbrev cX8_split : ByteArray := prog_10_method_58_code
def yX8_split : MethodName := ⟨RX8, "split", "(II)I"⟩
abbrev cX8_layWet : ByteArray := prog_10_method_59_code
def yX8_layWet : MethodName := ⟨RX8, "layWet", "(II)Z"⟩
abbrev cX8_worked : ByteArray := prog_10_method_60_code
def yX8_worked : MethodName := ⟨RX8, "worked", "(III)I"⟩
abbrev cX8_keeps : ByteArray := prog_10_method_61_code
def yX8_keeps : MethodName := ⟨RX8, "keeps", "(II)I"⟩
abbrev cX8_isRod : ByteArray := prog_10_method_62_code
def yX8_isRod : MethodName := ⟨RX8, "isRod", "(III)Z"⟩
abbrev cX8_above : ByteArray := prog_10_method_63_code
def yX8_above : MethodName := ⟨RX8, "above", "(IIII)I"⟩
abbrev cX8_rod : ByteArray := prog_10_method_64_code
def yX8_rod : MethodName := ⟨RX8, "rod", "(IIIII)I"⟩
abbrev cX8_near : ByteArray := prog_10_method_65_code
def yX8_near : MethodName := ⟨RX8, "near", "(IIIII)I"⟩
abbrev cX8_witch : ByteArray := prog_10_method_66_code
def yX8_witch : MethodName := ⟨RX8, "witch", "(IIIII)J"⟩
abbrev cX8_keep : ByteArray := prog_10_method_67_code
def yX8_keep : MethodName := ⟨RX8, "keep", "(I)I"⟩
abbrev cX8_back : ByteArray := prog_10_method_68_code
def yX8_back : MethodName := ⟨RX8, "back", "(I)I"⟩
abbrev cX8_sheet : ByteArray := prog_10_method_69_code
def yX8_sheet : MethodName := ⟨RX8, "sheet", "(III)I"⟩
abbrev cX8_lay : ByteArray := prog_10_method_70_code
def yX8_lay : MethodName := ⟨RX8, "lay", "(III)I"⟩
abbrev cX8_read : ByteArray := prog_10_method_71_code
def yX8_read : MethodName := ⟨RX8, "read", "(IIII)I"⟩
abbrev cX8_torn : ByteArray := prog_10_method_72_code
def yX8_torn : MethodName := ⟨RX8, "torn", "()I"⟩
abbrev cX8_count : ByteArray := prog_10_method_73_code
def yX8_count : MethodName := ⟨RX8, "count", "(I)I"⟩
def RJx8e188 : String := "java/lang/Cloneable"
def TJx8e188 : u_T := fun k => match k with
  | _ => ("", "", "", false)
def tyJx8e188 : Nat → FieldType := fun k => match k with
  | _ => .int
def RJ6 : String := "java/lang/Integer"
def TJ6 : u_T := fun k => match k with
  | _ => ("", "", "", false)
def tyJ6 : Nat → FieldType := fun k => match k with
  | _ => .int
abbrev cJ6_bitCount_0f7a4 : ByteArray := prog_12_method_49_code
def yJ6_bitCount_0f7a4 : MethodName := ⟨RJ6, "bitCount", "(I)I"⟩
def RJ9 : String := "java/lang/Math"
def TJ9 : u_T := fun k => match k with
  | _ => ("", "", "", false)
def tyJ9 : Nat → FieldType := fun k => match k with
  | _ => .int
abbrev cJ9_floorDiv_7cf53 : ByteArray := prog_13_method_47_code
def yJ9_floorDiv_7cf53 : MethodName := ⟨RJ9, "floorDiv", "(II)I"⟩
abbrev cJ9_max_7cf53 : ByteArray := prog_13_method_65_code
def yJ9_max_7cf53 : MethodName := ⟨RJ9, "max", "(II)I"⟩
abbrev cJ9_min_7cf53 : ByteArray := prog_13_method_69_code
def yJ9_min_7cf53 : MethodName := ⟨RJ9, "min", "(II)I"⟩
def RJ0 : String := "java/lang/String"
def TJ0 : u_T := fun k => match k with
  | _ => ("", "", "", false)
def tyJ0 : Nat → FieldType := fun k => match k with
  | _ => .int
abbrev cJ0_length_8abf5 : ByteArray := prog_14_method_54_code
def yJ0_length_8abf5 : MethodName := ⟨RJ0, "length", "()I"⟩
abbrev cJ0_charAt_5068e : ByteArray := prog_14_method_56_code
def yJ0_charAt_5068e : MethodName := ⟨RJ0, "charAt", "(I)C"⟩
abbrev cJ0_coder_7d493 : ByteArray := prog_14_method_152_code
def yJ0_coder_7d493 : MethodName := ⟨RJ0, "coder", "()B"⟩
abbrev cJ0_isLatin1_aae02 : ByteArray := prog_14_method_154_code
def yJ0_isLatin1_aae02 : MethodName := ⟨RJ0, "isLatin1", "()Z"⟩
abbrev cJ0_checkIndex_df160 : ByteArray := prog_14_method_155_code
def yJ0_checkIndex_df160 : MethodName := ⟨RJ0, "checkIndex", "(II)V"⟩
def RJ1 : String := "java/lang/StringLatin1"
def TJ1 : u_T := fun k => match k with
  | _ => ("", "", "", false)
def tyJ1 : Nat → FieldType := fun k => match k with
  | _ => .int
abbrev cJ1_charAt_3b067 : ByteArray := prog_15_method_2_code
def yJ1_charAt_3b067 : MethodName := ⟨RJ1, "charAt", "([BI)C"⟩
def RJ2 : String := "java/lang/StringUTF16"
def TJ2 : u_T := fun k => match k with
  | _ => ("", "", "", false)
def tyJ2 : Nat → FieldType := fun k => match k with
  | _ => .int
abbrev cJ2_getChar_3b067 : ByteArray := prog_16_method_5_code
def yJ2_getChar_3b067 : MethodName := ⟨RJ2, "getChar", "([BI)C"⟩
abbrev cJ2_length_9d52b : ByteArray := prog_16_method_6_code
def yJ2_length_9d52b : MethodName := ⟨RJ2, "length", "([B)I"⟩
abbrev cJ2_charAt_3b067 : ByteArray := prog_16_method_83_code
def yJ2_charAt_3b067 : MethodName := ⟨RJ2, "charAt", "([BI)C"⟩
abbrev cJ2_checkIndex_2214a : ByteArray := prog_16_method_91_code
def yJ2_checkIndex_2214a : MethodName := ⟨RJ2, "checkIndex", "(I[B)V"⟩
def RJ10 : String := "java/lang/System"
def TJ10 : u_T := fun k => match k with
  | _ => ("", "", "", false)
def tyJ10 : Nat → FieldType := fun k => match k with
  | _ => .int
def RJ3 : String := "jdk/internal/util/Preconditions"
def TJ3 : u_T := fun k => match k with
  | _ => ("", "", "", false)
def tyJ3 : Nat → FieldType := fun k => match k with
  | _ => .int
abbrev cJ3_checkIndex_8e157 : ByteArray := prog_18_method_11_code
def yJ3_checkIndex_8e157 : MethodName := ⟨RJ3, "checkIndex", "(IILjava/util/function/BiFunction;)I"⟩
def RL : String := "ButterChurnLaw"
abbrev cL_law : ByteArray := code
def yL_law : MethodName := ⟨RL, "law", "([I)Z"⟩
abbrev vwCl : List vw_C := [(RX0, TX0, 5), (RX1, TX1, 7), (RX2, TX2, 2), (RX3, TX3, 8), (RX4, TX4, 3), (RX5, TX5, 6), (RX6, TX6, 5), (RX7, TX7, 12), (RX8, TX8, 35)]
end
section
theorem dX0_init_0 : decode cX0_init 0 = .ok (.aload_n 0, 1) := by decide +kernel
theorem dX0_init_1 : decode cX0_init 1 = .ok (.invokespecial 1, 3) := by decide +kernel
theorem dX0_init_4 : decode cX0_init 4 = .ok (.return_, 1) := by decide +kernel
theorem dX0_offer_0 : decode cX0_offer 0 = .ok (.aload_n 0, 1) := by decide +kernel
theorem dX0_offer_1 : decode cX0_offer 1 = .ok (.getfield 7, 3) := by decide +kernel
theorem dX0_offer_4 : decode cX0_offer 4 = .ok (.ifCond .eq 30, 3) := by decide +kernel
theorem dX0_offer_7 : decode cX0_offer 7 = .ok (.iload 4, 2) := by decide +kernel
theorem dX0_offer_9 : decode cX0_offer 9 = .ok (.aload_n 0, 1) := by decide +kernel
theorem dX0_offer_10 : decode cX0_offer 10 = .ok (.getfield 13, 3) := by decide +kernel
theorem dX0_offer_13 : decode cX0_offer 13 = .ok (.if_icmp .gt 20, 3) := by decide +kernel
theorem dX0_offer_16 : decode cX0_offer 16 = .ok (.iload 4, 2) := by decide +kernel
theorem dX0_offer_18 : decode cX0_offer 18 = .ok (.aload_n 0, 1) := by decide +kernel
theorem dX0_offer_19 : decode cX0_offer 19 = .ok (.getfield 13, 3) := by decide +kernel
theorem dX0_offer_22 : decode cX0_offer 22 = .ok (.if_icmp .ne 12, 3) := by decide +kernel
theorem dX0_offer_25 : decode cX0_offer 25 = .ok (.iload_n 3, 1) := by decide +kernel
theorem dX0_offer_26 : decode cX0_offer 26 = .ok (.aload_n 0, 1) := by decide +kernel
theorem dX0_offer_27 : decode cX0_offer 27 = .ok (.getfield 17, 3) := by decide +kernel
theorem dX0_offer_30 : decode cX0_offer 30 = .ok (.if_icmp .lt 4, 3) := by decide +kernel
theorem dX0_offer_33 : decode cX0_offer 33 = .ok (.return_, 1) := by decide +kernel
theorem dX0_offer_34 : decode cX0_offer 34 = .ok (.aload_n 0, 1) := by decide +kernel
theorem dX0_offer_35 : decode cX0_offer 35 = .ok (.iconst 1, 1) := by decide +kernel
theorem dX0_offer_36 : decode cX0_offer 36 = .ok (.putfield 7, 3) := by decide +kernel
theorem dX0_offer_39 : decode cX0_offer 39 = .ok (.aload_n 0, 1) := by decide +kernel
theorem dX0_offer_40 : decode cX0_offer 40 = .ok (.iload_n 1, 1) := by decide +kernel
theorem dX0_offer_41 : decode cX0_offer 41 = .ok (.putfield 20, 3) := by decide +kernel
theorem dX0_offer_44 : decode cX0_offer 44 = .ok (.aload_n 0, 1) := by decide +kernel
theorem dX0_offer_45 : decode cX0_offer 45 = .ok (.iload_n 2, 1) := by decide +kernel
theorem dX0_offer_46 : decode cX0_offer 46 = .ok (.putfield 23, 3) := by decide +kernel
theorem dX0_offer_49 : decode cX0_offer 49 = .ok (.aload_n 0, 1) := by decide +kernel
theorem dX0_offer_50 : decode cX0_offer 50 = .ok (.iload_n 3, 1) := by decide +kernel
theorem dX0_offer_51 : decode cX0_offer 51 = .ok (.putfield 17, 3) := by decide +kernel
theorem dX0_offer_54 : decode cX0_offer 54 = .ok (.aload_n 0, 1) := by decide +kernel
theorem dX0_offer_55 : decode cX0_offer 55 = .ok (.iload 4, 2) := by decide +kernel
theorem dX0_offer_57 : decode cX0_offer 57 = .ok (.putfield 13, 3) := by decide +kernel
theorem dX0_offer_60 : decode cX0_offer 60 = .ok (.return_, 1) := by decide +kernel
theorem dX0_tell_0 : decode cX0_tell 0 = .ok (.iload_n 1, 1) := by decide +kernel
theorem dX0_tell_1 : decode cX0_tell 1 = .ok (.tableswitch 42 0 2 #[27, 32, 37], 27) := by decide +kernel
theorem dX0_tell_28 : decode cX0_tell 28 = .ok (.aload_n 0, 1) := by decide +kernel
theorem dX0_tell_29 : decode cX0_tell 29 = .ok (.getfield 20, 3) := by decide +kernel
theorem dX0_tell_32 : decode cX0_tell 32 = .ok (.ireturn, 1) := by decide +kernel
theorem dX0_tell_33 : decode cX0_tell 33 = .ok (.aload_n 0, 1) := by decide +kernel
theorem dX0_tell_34 : decode cX0_tell 34 = .ok (.getfield 23, 3) := by decide +kernel
theorem dX0_tell_37 : decode cX0_tell 37 = .ok (.ireturn, 1) := by decide +kernel
theorem dX0_tell_38 : decode cX0_tell 38 = .ok (.aload_n 0, 1) := by decide +kernel
theorem dX0_tell_39 : decode cX0_tell 39 = .ok (.getfield 17, 3) := by decide +kernel
theorem dX0_tell_42 : decode cX0_tell 42 = .ok (.ireturn, 1) := by decide +kernel
theorem dX0_tell_43 : decode cX0_tell 43 = .ok (.aload_n 0, 1) := by decide +kernel
theorem dX0_tell_44 : decode cX0_tell 44 = .ok (.getfield 13, 3) := by decide +kernel
theorem dX0_tell_47 : decode cX0_tell 47 = .ok (.ireturn, 1) := by decide +kernel
theorem dX1_init_0 : decode cX1_init 0 = .ok (.aload_n 0, 1) := by decide +kernel
theorem dX1_init_1 : decode cX1_init 1 = .ok (.invokespecial 3, 3) := by decide +kernel
theorem dX1_init_4 : decode cX1_init 4 = .ok (.aload_n 0, 1) := by decide +kernel
theorem dX1_init_5 : decode cX1_init 5 = .ok (.bipush 7, 2) := by decide +kernel
theorem dX1_init_7 : decode cX1_init 7 = .ok (.newarray .int, 2) := by decide +kernel
theorem dX1_init_9 : decode cX1_init 9 = .ok (.putfield 11, 3) := by decide +kernel
theorem dX1_init_12 : decode cX1_init 12 = .ok (.aload_n 0, 1) := by decide +kernel
theorem dX1_init_13 : decode cX1_init 13 = .ok (.bipush (-4), 2) := by decide +kernel
theorem dX1_init_15 : decode cX1_init 15 = .ok (.putfield 15, 3) := by decide +kernel
theorem dX1_init_18 : decode cX1_init 18 = .ok (.return_, 1) := by decide +kernel
theorem dX1_fillWith_0 : decode cX1_fillWith 0 = .ok (.aload_n 0, 1) := by decide +kernel
theorem dX1_fillWith_1 : decode cX1_fillWith 1 = .ok (.aload_n 1, 1) := by decide +kernel
theorem dX1_fillWith_2 : decode cX1_fillWith 2 = .ok (.iload_n 2, 1) := by decide +kernel
theorem dX1_fillWith_3 : decode cX1_fillWith 3 = .ok (.invokevirtual 19, 3) := by decide +kernel
theorem dX1_fillWith_6 : decode cX1_fillWith 6 = .ok (.putfield 25, 3) := by decide +kernel
theorem dX1_fillWith_9 : decode cX1_fillWith 9 = .ok (.aload_n 0, 1) := by decide +kernel
theorem dX1_fillWith_10 : decode cX1_fillWith 10 = .ok (.aload_n 1, 1) := by decide +kernel
theorem dX1_fillWith_11 : decode cX1_fillWith 11 = .ok (.iload_n 2, 1) := by decide +kernel
theorem dX1_fillWith_12 : decode cX1_fillWith 12 = .ok (.invokevirtual 28, 3) := by decide +kernel
theorem dX1_fillWith_15 : decode cX1_fillWith 15 = .ok (.putfield 31, 3) := by decide +kernel
theorem dX1_fillWith_18 : decode cX1_fillWith 18 = .ok (.aload_n 0, 1) := by decide +kernel
theorem dX1_fillWith_19 : decode cX1_fillWith 19 = .ok (.iload_n 3, 1) := by decide +kernel
theorem dX1_fillWith_20 : decode cX1_fillWith 20 = .ok (.putfield 34, 3) := by decide +kernel
theorem dX1_fillWith_23 : decode cX1_fillWith 23 = .ok (.aload_n 0, 1) := by decide +kernel
theorem dX1_fillWith_24 : decode cX1_fillWith 24 = .ok (.iconst 0, 1) := by decide +kernel
theorem dX1_fillWith_25 : decode cX1_fillWith 25 = .ok (.putfield 37, 3) := by decide +kernel
theorem dX1_fillWith_28 : decode cX1_fillWith 28 = .ok (.aload_n 0, 1) := by decide +kernel
theorem dX1_fillWith_29 : decode cX1_fillWith 29 = .ok (.iconst 0, 1) := by decide +kernel
theorem dX1_fillWith_30 : decode cX1_fillWith 30 = .ok (.putfield 40, 3) := by decide +kernel
theorem dX1_fillWith_33 : decode cX1_fillWith 33 = .ok (.aload_n 0, 1) := by decide +kernel
theorem dX1_fillWith_34 : decode cX1_fillWith 34 = .ok (.bipush (-4), 2) := by decide +kernel
theorem dX1_fillWith_36 : decode cX1_fillWith 36 = .ok (.putfield 15, 3) := by decide +kernel
theorem dX1_fillWith_39 : decode cX1_fillWith 39 = .ok (.iconst 0, 1) := by decide +kernel
theorem dX1_fillWith_40 : decode cX1_fillWith 40 = .ok (.istore 4, 2) := by decide +kernel
theorem dX1_fillWith_42 : decode cX1_fillWith 42 = .ok (.iload 4, 2) := by decide +kernel
theorem dX1_fillWith_44 : decode cX1_fillWith 44 = .ok (.aload_n 0, 1) := by decide +kernel
theorem dX1_fillWith_45 : decode cX1_fillWith 45 = .ok (.getfield 11, 3) := by decide +kernel
theorem dX1_fillWith_48 : decode cX1_fillWith 48 = .ok (.arraylength, 1) := by decide +kernel
theorem dX1_fillWith_49 : decode cX1_fillWith 49 = .ok (.if_icmp .ge 42, 3) := by decide +kernel
theorem dX1_fillWith_52 : decode cX1_fillWith 52 = .ok (.aload_n 0, 1) := by decide +kernel
theorem dX1_fillWith_53 : decode cX1_fillWith 53 = .ok (.getfield 11, 3) := by decide +kernel
theorem dX1_fillWith_56 : decode cX1_fillWith 56 = .ok (.iload 4, 2) := by decide +kernel
theorem dX1_fillWith_58 : decode cX1_fillWith 58 = .ok (.iload 4, 2) := by decide +kernel
theorem dX1_fillWith_60 : decode cX1_fillWith 60 = .ok (.aload_n 1, 1) := by decide +kernel
theorem dX1_fillWith_61 : decode cX1_fillWith 61 = .ok (.getfield 43, 3) := by decide +kernel
theorem dX1_fillWith_64 : decode cX1_fillWith 64 = .ok (.arraylength, 1) := by decide +kernel
theorem dX1_fillWith_65 : decode cX1_fillWith 65 = .ok (.if_icmp .ge 18, 3) := by decide +kernel
theorem dX1_fillWith_68 : decode cX1_fillWith 68 = .ok (.aload_n 0, 1) := by decide +kernel
theorem dX1_fillWith_69 : decode cX1_fillWith 69 = .ok (.getfield 25, 3) := by decide +kernel
theorem dX1_fillWith_72 : decode cX1_fillWith 72 = .ok (.aload_n 1, 1) := by decide +kernel
theorem dX1_fillWith_73 : decode cX1_fillWith 73 = .ok (.getfield 43, 3) := by decide +kernel
theorem dX1_fillWith_76 : decode cX1_fillWith 76 = .ok (.iload 4, 2) := by decide +kernel
theorem dX1_fillWith_78 : decode cX1_fillWith 78 = .ok (.iaload, 1) := by decide +kernel
theorem dX1_fillWith_79 : decode cX1_fillWith 79 = .ok (.imul, 1) := by decide +kernel
theorem dX1_fillWith_80 : decode cX1_fillWith 80 = .ok (.goto 4, 3) := by decide +kernel
theorem dX1_fillWith_83 : decode cX1_fillWith 83 = .ok (.iconst 0, 1) := by decide +kernel
theorem dX1_fillWith_84 : decode cX1_fillWith 84 = .ok (.iastore, 1) := by decide +kernel
theorem dX1_fillWith_85 : decode cX1_fillWith 85 = .ok (.iinc 4 1, 3) := by decide +kernel
theorem dX1_fillWith_88 : decode cX1_fillWith 88 = .ok (.goto (-46), 3) := by decide +kernel
theorem dX1_fillWith_91 : decode cX1_fillWith 91 = .ok (.return_, 1) := by decide +kernel
theorem dX1_becomeLike_0 : decode cX1_becomeLike 0 = .ok (.aload_n 0, 1) := by decide +kernel
theorem dX1_becomeLike_1 : decode cX1_becomeLike 1 = .ok (.aload_n 1, 1) := by decide +kernel
theorem dX1_becomeLike_2 : decode cX1_becomeLike 2 = .ok (.getfield 25, 3) := by decide +kernel
theorem dX1_becomeLike_5 : decode cX1_becomeLike 5 = .ok (.putfield 25, 3) := by decide +kernel
theorem dX1_becomeLike_8 : decode cX1_becomeLike 8 = .ok (.aload_n 0, 1) := by decide +kernel
theorem dX1_becomeLike_9 : decode cX1_becomeLike 9 = .ok (.aload_n 1, 1) := by decide +kernel
theorem dX1_becomeLike_10 : decode cX1_becomeLike 10 = .ok (.getfield 34, 3) := by decide +kernel
theorem dX1_becomeLike_13 : decode cX1_becomeLike 13 = .ok (.putfield 34, 3) := by decide +kernel
theorem dX1_becomeLike_16 : decode cX1_becomeLike 16 = .ok (.aload_n 0, 1) := by decide +kernel
theorem dX1_becomeLike_17 : decode cX1_becomeLike 17 = .ok (.aload_n 1, 1) := by decide +kernel
theorem dX1_becomeLike_18 : decode cX1_becomeLike 18 = .ok (.getfield 31, 3) := by decide +kernel
theorem dX1_becomeLike_21 : decode cX1_becomeLike 21 = .ok (.putfield 31, 3) := by decide +kernel
theorem dX1_becomeLike_24 : decode cX1_becomeLike 24 = .ok (.aload_n 0, 1) := by decide +kernel
theorem dX1_becomeLike_25 : decode cX1_becomeLike 25 = .ok (.aload_n 1, 1) := by decide +kernel
theorem dX1_becomeLike_26 : decode cX1_becomeLike 26 = .ok (.getfield 37, 3) := by decide +kernel
theorem dX1_becomeLike_29 : decode cX1_becomeLike 29 = .ok (.putfield 37, 3) := by decide +kernel
theorem dX1_becomeLike_32 : decode cX1_becomeLike 32 = .ok (.aload_n 0, 1) := by decide +kernel
theorem dX1_becomeLike_33 : decode cX1_becomeLike 33 = .ok (.aload_n 1, 1) := by decide +kernel
theorem dX1_becomeLike_34 : decode cX1_becomeLike 34 = .ok (.getfield 40, 3) := by decide +kernel
theorem dX1_becomeLike_37 : decode cX1_becomeLike 37 = .ok (.putfield 40, 3) := by decide +kernel
theorem dX1_becomeLike_40 : decode cX1_becomeLike 40 = .ok (.aload_n 0, 1) := by decide +kernel
theorem dX1_becomeLike_41 : decode cX1_becomeLike 41 = .ok (.aload_n 1, 1) := by decide +kernel
theorem dX1_becomeLike_42 : decode cX1_becomeLike 42 = .ok (.getfield 15, 3) := by decide +kernel
theorem dX1_becomeLike_45 : decode cX1_becomeLike 45 = .ok (.putfield 15, 3) := by decide +kernel
theorem dX1_becomeLike_48 : decode cX1_becomeLike 48 = .ok (.aload_n 1, 1) := by decide +kernel
theorem dX1_becomeLike_49 : decode cX1_becomeLike 49 = .ok (.getfield 11, 3) := by decide +kernel
theorem dX1_becomeLike_52 : decode cX1_becomeLike 52 = .ok (.iconst 0, 1) := by decide +kernel
theorem dX1_becomeLike_53 : decode cX1_becomeLike 53 = .ok (.aload_n 0, 1) := by decide +kernel
theorem dX1_becomeLike_54 : decode cX1_becomeLike 54 = .ok (.getfield 11, 3) := by decide +kernel
theorem dX1_becomeLike_57 : decode cX1_becomeLike 57 = .ok (.iconst 0, 1) := by decide +kernel
theorem dX1_becomeLike_58 : decode cX1_becomeLike 58 = .ok (.aload_n 0, 1) := by decide +kernel
theorem dX1_becomeLike_59 : decode cX1_becomeLike 59 = .ok (.getfield 11, 3) := by decide +kernel
theorem dX1_becomeLike_62 : decode cX1_becomeLike 62 = .ok (.arraylength, 1) := by decide +kernel
theorem dX1_becomeLike_63 : decode cX1_becomeLike 63 = .ok (.invokestatic 46, 3) := by decide +kernel
theorem dX1_becomeLike_66 : decode cX1_becomeLike 66 = .ok (.return_, 1) := by decide +kernel
theorem dX1_halve_0 : decode cX1_halve 0 = .ok (.aload_n 0, 1) := by decide +kernel
theorem dX1_halve_1 : decode cX1_halve 1 = .ok (.dup, 1) := by decide +kernel
theorem dX1_halve_2 : decode cX1_halve 2 = .ok (.getfield 25, 3) := by decide +kernel
theorem dX1_halve_5 : decode cX1_halve 5 = .ok (.iconst 2, 1) := by decide +kernel
theorem dX1_halve_6 : decode cX1_halve 6 = .ok (.idiv, 1) := by decide +kernel
theorem dX1_halve_7 : decode cX1_halve 7 = .ok (.putfield 25, 3) := by decide +kernel
theorem dX1_halve_10 : decode cX1_halve 10 = .ok (.aload_n 0, 1) := by decide +kernel
theorem dX1_halve_11 : decode cX1_halve 11 = .ok (.dup, 1) := by decide +kernel
theorem dX1_halve_12 : decode cX1_halve 12 = .ok (.getfield 37, 3) := by decide +kernel
theorem dX1_halve_15 : decode cX1_halve 15 = .ok (.iconst 2, 1) := by decide +kernel
theorem dX1_halve_16 : decode cX1_halve 16 = .ok (.idiv, 1) := by decide +kernel
theorem dX1_halve_17 : decode cX1_halve 17 = .ok (.putfield 37, 3) := by decide +kernel
theorem dX1_halve_20 : decode cX1_halve 20 = .ok (.iconst 0, 1) := by decide +kernel
theorem dX1_halve_21 : decode cX1_halve 21 = .ok (.istore_n 1, 1) := by decide +kernel
theorem dX1_halve_22 : decode cX1_halve 22 = .ok (.iload_n 1, 1) := by decide +kernel
theorem dX1_halve_23 : decode cX1_halve 23 = .ok (.aload_n 0, 1) := by decide +kernel
theorem dX1_halve_24 : decode cX1_halve 24 = .ok (.getfield 11, 3) := by decide +kernel
theorem dX1_halve_27 : decode cX1_halve 27 = .ok (.arraylength, 1) := by decide +kernel
theorem dX1_halve_28 : decode cX1_halve 28 = .ok (.if_icmp .ge 19, 3) := by decide +kernel
theorem dX1_halve_31 : decode cX1_halve 31 = .ok (.aload_n 0, 1) := by decide +kernel
theorem dX1_halve_32 : decode cX1_halve 32 = .ok (.getfield 11, 3) := by decide +kernel
theorem dX1_halve_35 : decode cX1_halve 35 = .ok (.iload_n 1, 1) := by decide +kernel
theorem dX1_halve_36 : decode cX1_halve 36 = .ok (.dup2, 1) := by decide +kernel
theorem dX1_halve_37 : decode cX1_halve 37 = .ok (.iaload, 1) := by decide +kernel
theorem dX1_halve_38 : decode cX1_halve 38 = .ok (.iconst 2, 1) := by decide +kernel
theorem dX1_halve_39 : decode cX1_halve 39 = .ok (.idiv, 1) := by decide +kernel
theorem dX1_halve_40 : decode cX1_halve 40 = .ok (.iastore, 1) := by decide +kernel
theorem dX1_halve_41 : decode cX1_halve 41 = .ok (.iinc 1 1, 3) := by decide +kernel
theorem dX1_halve_44 : decode cX1_halve 44 = .ok (.goto (-22), 3) := by decide +kernel
theorem dX1_halve_47 : decode cX1_halve 47 = .ok (.return_, 1) := by decide +kernel
theorem dX1_hasCome_0 : decode cX1_hasCome 0 = .ok (.aload_n 0, 1) := by decide +kernel
theorem dX1_hasCome_1 : decode cX1_hasCome 1 = .ok (.getfield 15, 3) := by decide +kernel
theorem dX1_hasCome_4 : decode cX1_hasCome 4 = .ok (.bipush (-4), 2) := by decide +kernel
theorem dX1_hasCome_6 : decode cX1_hasCome 6 = .ok (.if_icmp .eq 7, 3) := by decide +kernel
theorem dX1_hasCome_9 : decode cX1_hasCome 9 = .ok (.iconst 1, 1) := by decide +kernel
theorem dX1_hasCome_10 : decode cX1_hasCome 10 = .ok (.goto 4, 3) := by decide +kernel
theorem dX1_hasCome_13 : decode cX1_hasCome 13 = .ok (.iconst 0, 1) := by decide +kernel
theorem dX1_hasCome_14 : decode cX1_hasCome 14 = .ok (.ireturn, 1) := by decide +kernel
theorem dX1_isSwollen_0 : decode cX1_isSwollen 0 = .ok (.aload_n 0, 1) := by decide +kernel
theorem dX1_isSwollen_1 : decode cX1_isSwollen 1 = .ok (.getfield 37, 3) := by decide +kernel
theorem dX1_isSwollen_4 : decode cX1_isSwollen 4 = .ok (.aload_n 1, 1) := by decide +kernel
theorem dX1_isSwollen_5 : decode cX1_isSwollen 5 = .ok (.getfield 52, 3) := by decide +kernel
theorem dX1_isSwollen_8 : decode cX1_isSwollen 8 = .ok (.iconst 4, 1) := by decide +kernel
theorem dX1_isSwollen_9 : decode cX1_isSwollen 9 = .ok (.iaload, 1) := by decide +kernel
theorem dX1_isSwollen_10 : decode cX1_isSwollen 10 = .ok (.imul, 1) := by decide +kernel
theorem dX1_isSwollen_11 : decode cX1_isSwollen 11 = .ok (.bipush 100, 2) := by decide +kernel
theorem dX1_isSwollen_13 : decode cX1_isSwollen 13 = .ok (.idiv, 1) := by decide +kernel
theorem dX1_isSwollen_14 : decode cX1_isSwollen 14 = .ok (.istore_n 2, 1) := by decide +kernel
theorem dX1_isSwollen_15 : decode cX1_isSwollen 15 = .ok (.aload_n 0, 1) := by decide +kernel
theorem dX1_isSwollen_16 : decode cX1_isSwollen 16 = .ok (.invokevirtual 55, 3) := by decide +kernel
theorem dX1_isSwollen_19 : decode cX1_isSwollen 19 = .ok (.ifCond .ne 22, 3) := by decide +kernel
theorem dX1_isSwollen_22 : decode cX1_isSwollen 22 = .ok (.aload_n 0, 1) := by decide +kernel
theorem dX1_isSwollen_23 : decode cX1_isSwollen 23 = .ok (.getfield 25, 3) := by decide +kernel
theorem dX1_isSwollen_26 : decode cX1_isSwollen 26 = .ok (.iload_n 2, 1) := by decide +kernel
theorem dX1_isSwollen_27 : decode cX1_isSwollen 27 = .ok (.iadd, 1) := by decide +kernel
theorem dX1_isSwollen_28 : decode cX1_isSwollen 28 = .ok (.aload_n 1, 1) := by decide +kernel
theorem dX1_isSwollen_29 : decode cX1_isSwollen 29 = .ok (.getfield 52, 3) := by decide +kernel
theorem dX1_isSwollen_32 : decode cX1_isSwollen 32 = .ok (.iconst 0, 1) := by decide +kernel
theorem dX1_isSwollen_33 : decode cX1_isSwollen 33 = .ok (.iaload, 1) := by decide +kernel
theorem dX1_isSwollen_34 : decode cX1_isSwollen 34 = .ok (.if_icmp .lt 7, 3) := by decide +kernel
theorem dX1_isSwollen_37 : decode cX1_isSwollen 37 = .ok (.iconst 1, 1) := by decide +kernel
theorem dX1_isSwollen_38 : decode cX1_isSwollen 38 = .ok (.goto 4, 3) := by decide +kernel
theorem dX1_isSwollen_41 : decode cX1_isSwollen 41 = .ok (.iconst 0, 1) := by decide +kernel
theorem dX1_isSwollen_42 : decode cX1_isSwollen 42 = .ok (.ireturn, 1) := by decide +kernel
theorem dX1_hardness_0 : decode cX1_hardness 0 = .ok (.aload_n 0, 1) := by decide +kernel
theorem dX1_hardness_1 : decode cX1_hardness 1 = .ok (.getfield 34, 3) := by decide +kernel
theorem dX1_hardness_4 : decode cX1_hardness 4 = .ok (.aload_n 1, 1) := by decide +kernel
theorem dX1_hardness_5 : decode cX1_hardness 5 = .ok (.invokevirtual 59, 3) := by decide +kernel
theorem dX1_hardness_8 : decode cX1_hardness 8 = .ok (.isub, 1) := by decide +kernel
theorem dX1_hardness_9 : decode cX1_hardness 9 = .ok (.aload_n 1, 1) := by decide +kernel
theorem dX1_hardness_10 : decode cX1_hardness 10 = .ok (.getfield 52, 3) := by decide +kernel
theorem dX1_hardness_13 : decode cX1_hardness 13 = .ok (.iconst 2, 1) := by decide +kernel
theorem dX1_hardness_14 : decode cX1_hardness 14 = .ok (.iaload, 1) := by decide +kernel
theorem dX1_hardness_15 : decode cX1_hardness 15 = .ok (.imul, 1) := by decide +kernel
theorem dX1_hardness_16 : decode cX1_hardness 16 = .ok (.bipush 100, 2) := by decide +kernel
theorem dX1_hardness_18 : decode cX1_hardness 18 = .ok (.invokestatic 63, 3) := by decide +kernel
theorem dX1_hardness_21 : decode cX1_hardness 21 = .ok (.istore_n 2, 1) := by decide +kernel
theorem dX1_hardness_22 : decode cX1_hardness 22 = .ok (.iconst 0, 1) := by decide +kernel
theorem dX1_hardness_23 : decode cX1_hardness 23 = .ok (.bipush 100, 2) := by decide +kernel
theorem dX1_hardness_25 : decode cX1_hardness 25 = .ok (.aload_n 0, 1) := by decide +kernel
theorem dX1_hardness_26 : decode cX1_hardness 26 = .ok (.getfield 31, 3) := by decide +kernel
theorem dX1_hardness_29 : decode cX1_hardness 29 = .ok (.iload_n 2, 1) := by decide +kernel
theorem dX1_hardness_30 : decode cX1_hardness 30 = .ok (.isub, 1) := by decide +kernel
theorem dX1_hardness_31 : decode cX1_hardness 31 = .ok (.invokestatic 69, 3) := by decide +kernel
theorem dX1_hardness_34 : decode cX1_hardness 34 = .ok (.invokestatic 72, 3) := by decide +kernel
theorem dX1_hardness_37 : decode cX1_hardness 37 = .ok (.ireturn, 1) := by decide +kernel
theorem dX1_turnOnce_0 : decode cX1_turnOnce 0 = .ok (.aload_n 0, 1) := by decide +kernel
theorem dX1_turnOnce_1 : decode cX1_turnOnce 1 = .ok (.aload_n 1, 1) := by decide +kernel
theorem dX1_turnOnce_2 : decode cX1_turnOnce 2 = .ok (.invokevirtual 75, 3) := by decide +kernel
theorem dX1_turnOnce_5 : decode cX1_turnOnce 5 = .ok (.ifCond .ne 7, 3) := by decide +kernel
theorem dX1_turnOnce_8 : decode cX1_turnOnce 8 = .ok (.iconst 1, 1) := by decide +kernel
theorem dX1_turnOnce_9 : decode cX1_turnOnce 9 = .ok (.goto 4, 3) := by decide +kernel
theorem dX1_turnOnce_12 : decode cX1_turnOnce 12 = .ok (.iconst 0, 1) := by decide +kernel
theorem dX1_turnOnce_13 : decode cX1_turnOnce 13 = .ok (.istore_n 3, 1) := by decide +kernel
theorem dX1_turnOnce_14 : decode cX1_turnOnce 14 = .ok (.iload_n 3, 1) := by decide +kernel
theorem dX1_turnOnce_15 : decode cX1_turnOnce 15 = .ok (.ifCond .eq 24, 3) := by decide +kernel
theorem dX1_turnOnce_18 : decode cX1_turnOnce 18 = .ok (.aload_n 0, 1) := by decide +kernel
theorem dX1_turnOnce_19 : decode cX1_turnOnce 19 = .ok (.aload_n 1, 1) := by decide +kernel
theorem dX1_turnOnce_20 : decode cX1_turnOnce 20 = .ok (.iload_n 2, 1) := by decide +kernel
theorem dX1_turnOnce_21 : decode cX1_turnOnce 21 = .ok (.invokevirtual 79, 3) := by decide +kernel
theorem dX1_turnOnce_24 : decode cX1_turnOnce 24 = .ok (.aload_n 0, 1) := by decide +kernel
theorem dX1_turnOnce_25 : decode cX1_turnOnce 25 = .ok (.aload_n 0, 1) := by decide +kernel
theorem dX1_turnOnce_26 : decode cX1_turnOnce 26 = .ok (.aload_n 1, 1) := by decide +kernel
theorem dX1_turnOnce_27 : decode cX1_turnOnce 27 = .ok (.iload_n 2, 1) := by decide +kernel
theorem dX1_turnOnce_28 : decode cX1_turnOnce 28 = .ok (.invokevirtual 83, 3) := by decide +kernel
theorem dX1_turnOnce_31 : decode cX1_turnOnce 31 = .ok (.invokevirtual 87, 3) := by decide +kernel
theorem dX1_turnOnce_34 : decode cX1_turnOnce 34 = .ok (.aload_n 0, 1) := by decide +kernel
theorem dX1_turnOnce_35 : decode cX1_turnOnce 35 = .ok (.aload_n 1, 1) := by decide +kernel
theorem dX1_turnOnce_36 : decode cX1_turnOnce 36 = .ok (.invokevirtual 91, 3) := by decide +kernel
theorem dX1_turnOnce_39 : decode cX1_turnOnce 39 = .ok (.aload_n 0, 1) := by decide +kernel
theorem dX1_turnOnce_40 : decode cX1_turnOnce 40 = .ok (.dup, 1) := by decide +kernel
theorem dX1_turnOnce_41 : decode cX1_turnOnce 41 = .ok (.getfield 40, 3) := by decide +kernel
theorem dX1_turnOnce_44 : decode cX1_turnOnce 44 = .ok (.iconst 1, 1) := by decide +kernel
theorem dX1_turnOnce_45 : decode cX1_turnOnce 45 = .ok (.iadd, 1) := by decide +kernel
theorem dX1_turnOnce_46 : decode cX1_turnOnce 46 = .ok (.putfield 40, 3) := by decide +kernel
theorem dX1_turnOnce_49 : decode cX1_turnOnce 49 = .ok (.aload_n 1, 1) := by decide +kernel
theorem dX1_turnOnce_50 : decode cX1_turnOnce 50 = .ok (.getfield 52, 3) := by decide +kernel
theorem dX1_turnOnce_53 : decode cX1_turnOnce 53 = .ok (.bipush 6, 2) := by decide +kernel
theorem dX1_turnOnce_55 : decode cX1_turnOnce 55 = .ok (.iaload, 1) := by decide +kernel
theorem dX1_turnOnce_56 : decode cX1_turnOnce 56 = .ok (.istore 4, 2) := by decide +kernel
theorem dX1_turnOnce_58 : decode cX1_turnOnce 58 = .ok (.iload 4, 2) := by decide +kernel
theorem dX1_turnOnce_60 : decode cX1_turnOnce 60 = .ok (.ifCond .le 29, 3) := by decide +kernel
theorem dX1_turnOnce_63 : decode cX1_turnOnce 63 = .ok (.aload_n 0, 1) := by decide +kernel
theorem dX1_turnOnce_64 : decode cX1_turnOnce 64 = .ok (.getfield 40, 3) := by decide +kernel
theorem dX1_turnOnce_67 : decode cX1_turnOnce 67 = .ok (.iload 4, 2) := by decide +kernel
theorem dX1_turnOnce_69 : decode cX1_turnOnce 69 = .ok (.irem, 1) := by decide +kernel
theorem dX1_turnOnce_70 : decode cX1_turnOnce 70 = .ok (.ifCond .ne 19, 3) := by decide +kernel
theorem dX1_turnOnce_73 : decode cX1_turnOnce 73 = .ok (.aload_n 0, 1) := by decide +kernel
theorem dX1_turnOnce_74 : decode cX1_turnOnce 74 = .ok (.sipush 400, 3) := by decide +kernel
theorem dX1_turnOnce_77 : decode cX1_turnOnce 77 = .ok (.aload_n 0, 1) := by decide +kernel
theorem dX1_turnOnce_78 : decode cX1_turnOnce 78 = .ok (.getfield 34, 3) := by decide +kernel
theorem dX1_turnOnce_81 : decode cX1_turnOnce 81 = .ok (.iload_n 2, 1) := by decide +kernel
theorem dX1_turnOnce_82 : decode cX1_turnOnce 82 = .ok (.iadd, 1) := by decide +kernel
theorem dX1_turnOnce_83 : decode cX1_turnOnce 83 = .ok (.invokestatic 69, 3) := by decide +kernel
theorem dX1_turnOnce_86 : decode cX1_turnOnce 86 = .ok (.putfield 34, 3) := by decide +kernel
theorem dX1_turnOnce_89 : decode cX1_turnOnce 89 = .ok (.iload_n 3, 1) := by decide +kernel
theorem dX1_turnOnce_90 : decode cX1_turnOnce 90 = .ok (.ireturn, 1) := by decide +kernel
theorem dX1_beatIn_0 : decode cX1_beatIn 0 = .ok (.aload_n 0, 1) := by decide +kernel
theorem dX1_beatIn_1 : decode cX1_beatIn 1 = .ok (.invokevirtual 55, 3) := by decide +kernel
theorem dX1_beatIn_4 : decode cX1_beatIn 4 = .ok (.ifCond .ne 26, 3) := by decide +kernel
theorem dX1_beatIn_7 : decode cX1_beatIn 7 = .ok (.aload_n 0, 1) := by decide +kernel
theorem dX1_beatIn_8 : decode cX1_beatIn 8 = .ok (.sipush 1000, 3) := by decide +kernel
theorem dX1_beatIn_11 : decode cX1_beatIn 11 = .ok (.aload_n 0, 1) := by decide +kernel
theorem dX1_beatIn_12 : decode cX1_beatIn 12 = .ok (.getfield 37, 3) := by decide +kernel
theorem dX1_beatIn_15 : decode cX1_beatIn 15 = .ok (.aload_n 1, 1) := by decide +kernel
theorem dX1_beatIn_16 : decode cX1_beatIn 16 = .ok (.getfield 52, 3) := by decide +kernel
theorem dX1_beatIn_19 : decode cX1_beatIn 19 = .ok (.iconst 3, 1) := by decide +kernel
theorem dX1_beatIn_20 : decode cX1_beatIn 20 = .ok (.iaload, 1) := by decide +kernel
theorem dX1_beatIn_21 : decode cX1_beatIn 21 = .ok (.iload_n 2, 1) := by decide +kernel
theorem dX1_beatIn_22 : decode cX1_beatIn 22 = .ok (.imul, 1) := by decide +kernel
theorem dX1_beatIn_23 : decode cX1_beatIn 23 = .ok (.iadd, 1) := by decide +kernel
theorem dX1_beatIn_24 : decode cX1_beatIn 24 = .ok (.invokestatic 69, 3) := by decide +kernel
theorem dX1_beatIn_27 : decode cX1_beatIn 27 = .ok (.putfield 37, 3) := by decide +kernel
theorem dX1_beatIn_30 : decode cX1_beatIn 30 = .ok (.return_, 1) := by decide +kernel
theorem dX1_rate_0 : decode cX1_rate 0 = .ok (.aload_n 0, 1) := by decide +kernel
theorem dX1_rate_1 : decode cX1_rate 1 = .ok (.invokevirtual 55, 3) := by decide +kernel
theorem dX1_rate_4 : decode cX1_rate 4 = .ok (.ifCond .eq 13, 3) := by decide +kernel
theorem dX1_rate_7 : decode cX1_rate 7 = .ok (.bipush 100, 2) := by decide +kernel
theorem dX1_rate_9 : decode cX1_rate 9 = .ok (.bipush 20, 2) := by decide +kernel
theorem dX1_rate_11 : decode cX1_rate 11 = .ok (.iload_n 2, 1) := by decide +kernel
theorem dX1_rate_12 : decode cX1_rate 12 = .ok (.imul, 1) := by decide +kernel
theorem dX1_rate_13 : decode cX1_rate 13 = .ok (.invokestatic 69, 3) := by decide +kernel
theorem dX1_rate_16 : decode cX1_rate 16 = .ok (.ireturn, 1) := by decide +kernel
theorem dX1_rate_17 : decode cX1_rate 17 = .ok (.aload_n 0, 1) := by decide +kernel
theorem dX1_rate_18 : decode cX1_rate 18 = .ok (.aload_n 1, 1) := by decide +kernel
theorem dX1_rate_19 : decode cX1_rate 19 = .ok (.invokevirtual 95, 3) := by decide +kernel
theorem dX1_rate_22 : decode cX1_rate 22 = .ok (.istore_n 3, 1) := by decide +kernel
theorem dX1_rate_23 : decode cX1_rate 23 = .ok (.bipush 100, 2) := by decide +kernel
theorem dX1_rate_25 : decode cX1_rate 25 = .ok (.iload_n 3, 1) := by decide +kernel
theorem dX1_rate_26 : decode cX1_rate 26 = .ok (.bipush 100, 2) := by decide +kernel
theorem dX1_rate_28 : decode cX1_rate 28 = .ok (.iload_n 3, 1) := by decide +kernel
theorem dX1_rate_29 : decode cX1_rate 29 = .ok (.isub, 1) := by decide +kernel
theorem dX1_rate_30 : decode cX1_rate 30 = .ok (.imul, 1) := by decide +kernel
theorem dX1_rate_31 : decode cX1_rate 31 = .ok (.aload_n 0, 1) := by decide +kernel
theorem dX1_rate_32 : decode cX1_rate 32 = .ok (.getfield 37, 3) := by decide +kernel
theorem dX1_rate_35 : decode cX1_rate 35 = .ok (.imul, 1) := by decide +kernel
theorem dX1_rate_36 : decode cX1_rate 36 = .ok (.sipush 25000, 3) := by decide +kernel
theorem dX1_rate_39 : decode cX1_rate 39 = .ok (.idiv, 1) := by decide +kernel
theorem dX1_rate_40 : decode cX1_rate 40 = .ok (.invokestatic 69, 3) := by decide +kernel
theorem dX1_rate_43 : decode cX1_rate 43 = .ok (.ireturn, 1) := by decide +kernel
theorem dX1_joinDrops_0 : decode cX1_joinDrops 0 = .ok (.aload_n 0, 1) := by decide +kernel
theorem dX1_joinDrops_1 : decode cX1_joinDrops 1 = .ok (.getfield 11, 3) := by decide +kernel
theorem dX1_joinDrops_4 : decode cX1_joinDrops 4 = .ok (.arraylength, 1) := by decide +kernel
theorem dX1_joinDrops_5 : decode cX1_joinDrops 5 = .ok (.iconst 2, 1) := by decide +kernel
theorem dX1_joinDrops_6 : decode cX1_joinDrops 6 = .ok (.isub, 1) := by decide +kernel
theorem dX1_joinDrops_7 : decode cX1_joinDrops 7 = .ok (.istore_n 2, 1) := by decide +kernel
theorem dX1_joinDrops_8 : decode cX1_joinDrops 8 = .ok (.iload_n 2, 1) := by decide +kernel
theorem dX1_joinDrops_9 : decode cX1_joinDrops 9 = .ok (.ifCond .lt 46, 3) := by decide +kernel
theorem dX1_joinDrops_12 : decode cX1_joinDrops 12 = .ok (.iload_n 1, 1) := by decide +kernel
theorem dX1_joinDrops_13 : decode cX1_joinDrops 13 = .ok (.aload_n 0, 1) := by decide +kernel
theorem dX1_joinDrops_14 : decode cX1_joinDrops 14 = .ok (.getfield 11, 3) := by decide +kernel
theorem dX1_joinDrops_17 : decode cX1_joinDrops 17 = .ok (.iload_n 2, 1) := by decide +kernel
theorem dX1_joinDrops_18 : decode cX1_joinDrops 18 = .ok (.iaload, 1) := by decide +kernel
theorem dX1_joinDrops_19 : decode cX1_joinDrops 19 = .ok (.imul, 1) := by decide +kernel
theorem dX1_joinDrops_20 : decode cX1_joinDrops 20 = .ok (.sipush 200, 3) := by decide +kernel
theorem dX1_joinDrops_23 : decode cX1_joinDrops 23 = .ok (.idiv, 1) := by decide +kernel
theorem dX1_joinDrops_24 : decode cX1_joinDrops 24 = .ok (.istore_n 3, 1) := by decide +kernel
theorem dX1_joinDrops_25 : decode cX1_joinDrops 25 = .ok (.aload_n 0, 1) := by decide +kernel
theorem dX1_joinDrops_26 : decode cX1_joinDrops 26 = .ok (.getfield 11, 3) := by decide +kernel
theorem dX1_joinDrops_29 : decode cX1_joinDrops 29 = .ok (.iload_n 2, 1) := by decide +kernel
theorem dX1_joinDrops_30 : decode cX1_joinDrops 30 = .ok (.dup2, 1) := by decide +kernel
theorem dX1_joinDrops_31 : decode cX1_joinDrops 31 = .ok (.iaload, 1) := by decide +kernel
theorem dX1_joinDrops_32 : decode cX1_joinDrops 32 = .ok (.iconst 2, 1) := by decide +kernel
theorem dX1_joinDrops_33 : decode cX1_joinDrops 33 = .ok (.iload_n 3, 1) := by decide +kernel
theorem dX1_joinDrops_34 : decode cX1_joinDrops 34 = .ok (.imul, 1) := by decide +kernel
theorem dX1_joinDrops_35 : decode cX1_joinDrops 35 = .ok (.isub, 1) := by decide +kernel
theorem dX1_joinDrops_36 : decode cX1_joinDrops 36 = .ok (.iastore, 1) := by decide +kernel
theorem dX1_joinDrops_37 : decode cX1_joinDrops 37 = .ok (.aload_n 0, 1) := by decide +kernel
theorem dX1_joinDrops_38 : decode cX1_joinDrops 38 = .ok (.getfield 11, 3) := by decide +kernel
theorem dX1_joinDrops_41 : decode cX1_joinDrops 41 = .ok (.iload_n 2, 1) := by decide +kernel
theorem dX1_joinDrops_42 : decode cX1_joinDrops 42 = .ok (.iconst 1, 1) := by decide +kernel
theorem dX1_joinDrops_43 : decode cX1_joinDrops 43 = .ok (.iadd, 1) := by decide +kernel
theorem dX1_joinDrops_44 : decode cX1_joinDrops 44 = .ok (.dup2, 1) := by decide +kernel
theorem dX1_joinDrops_45 : decode cX1_joinDrops 45 = .ok (.iaload, 1) := by decide +kernel
theorem dX1_joinDrops_46 : decode cX1_joinDrops 46 = .ok (.iload_n 3, 1) := by decide +kernel
theorem dX1_joinDrops_47 : decode cX1_joinDrops 47 = .ok (.iadd, 1) := by decide +kernel
theorem dX1_joinDrops_48 : decode cX1_joinDrops 48 = .ok (.iastore, 1) := by decide +kernel
theorem dX1_joinDrops_49 : decode cX1_joinDrops 49 = .ok (.iinc 2 (-1), 3) := by decide +kernel
theorem dX1_joinDrops_52 : decode cX1_joinDrops 52 = .ok (.goto (-44), 3) := by decide +kernel
theorem dX1_joinDrops_55 : decode cX1_joinDrops 55 = .ok (.return_, 1) := by decide +kernel
theorem dX1_breakIfDue_0 : decode cX1_breakIfDue 0 = .ok (.aload_n 0, 1) := by decide +kernel
theorem dX1_breakIfDue_1 : decode cX1_breakIfDue 1 = .ok (.invokevirtual 55, 3) := by decide +kernel
theorem dX1_breakIfDue_4 : decode cX1_breakIfDue 4 = .ok (.ifCond .eq 4, 3) := by decide +kernel
theorem dX1_breakIfDue_7 : decode cX1_breakIfDue 7 = .ok (.return_, 1) := by decide +kernel
theorem dX1_breakIfDue_8 : decode cX1_breakIfDue 8 = .ok (.aload_n 0, 1) := by decide +kernel
theorem dX1_breakIfDue_9 : decode cX1_breakIfDue 9 = .ok (.iconst 0, 1) := by decide +kernel
theorem dX1_breakIfDue_10 : decode cX1_breakIfDue 10 = .ok (.invokevirtual 99, 3) := by decide +kernel
theorem dX1_breakIfDue_13 : decode cX1_breakIfDue 13 = .ok (.istore_n 2, 1) := by decide +kernel
theorem dX1_breakIfDue_14 : decode cX1_breakIfDue 14 = .ok (.iload_n 2, 1) := by decide +kernel
theorem dX1_breakIfDue_15 : decode cX1_breakIfDue 15 = .ok (.ifCond .le 32, 3) := by decide +kernel
theorem dX1_breakIfDue_18 : decode cX1_breakIfDue 18 = .ok (.iconst 2, 1) := by decide +kernel
theorem dX1_breakIfDue_19 : decode cX1_breakIfDue 19 = .ok (.aload_n 0, 1) := by decide +kernel
theorem dX1_breakIfDue_20 : decode cX1_breakIfDue 20 = .ok (.aload_n 1, 1) := by decide +kernel
theorem dX1_breakIfDue_21 : decode cX1_breakIfDue 21 = .ok (.getfield 52, 3) := by decide +kernel
theorem dX1_breakIfDue_24 : decode cX1_breakIfDue 24 = .ok (.iconst 5, 1) := by decide +kernel
theorem dX1_breakIfDue_25 : decode cX1_breakIfDue 25 = .ok (.iaload, 1) := by decide +kernel
theorem dX1_breakIfDue_26 : decode cX1_breakIfDue 26 = .ok (.invokevirtual 99, 3) := by decide +kernel
theorem dX1_breakIfDue_29 : decode cX1_breakIfDue 29 = .ok (.imul, 1) := by decide +kernel
theorem dX1_breakIfDue_30 : decode cX1_breakIfDue 30 = .ok (.iload_n 2, 1) := by decide +kernel
theorem dX1_breakIfDue_31 : decode cX1_breakIfDue 31 = .ok (.if_icmp .lt 16, 3) := by decide +kernel
theorem dX1_breakIfDue_34 : decode cX1_breakIfDue 34 = .ok (.aload_n 0, 1) := by decide +kernel
theorem dX1_breakIfDue_35 : decode cX1_breakIfDue 35 = .ok (.aload_n 0, 1) := by decide +kernel
theorem dX1_breakIfDue_36 : decode cX1_breakIfDue 36 = .ok (.getfield 40, 3) := by decide +kernel
theorem dX1_breakIfDue_39 : decode cX1_breakIfDue 39 = .ok (.putfield 15, 3) := by decide +kernel
theorem dX1_breakIfDue_42 : decode cX1_breakIfDue 42 = .ok (.aload_n 0, 1) := by decide +kernel
theorem dX1_breakIfDue_43 : decode cX1_breakIfDue 43 = .ok (.iconst 0, 1) := by decide +kernel
theorem dX1_breakIfDue_44 : decode cX1_breakIfDue 44 = .ok (.putfield 37, 3) := by decide +kernel
theorem dX1_breakIfDue_47 : decode cX1_breakIfDue 47 = .ok (.return_, 1) := by decide +kernel
theorem dX1_fatFrom_0 : decode cX1_fatFrom 0 = .ok (.iconst 0, 1) := by decide +kernel
theorem dX1_fatFrom_1 : decode cX1_fatFrom 1 = .ok (.istore_n 2, 1) := by decide +kernel
theorem dX1_fatFrom_2 : decode cX1_fatFrom 2 = .ok (.iconst 0, 1) := by decide +kernel
theorem dX1_fatFrom_3 : decode cX1_fatFrom 3 = .ok (.iload_n 1, 1) := by decide +kernel
theorem dX1_fatFrom_4 : decode cX1_fatFrom 4 = .ok (.invokestatic 72, 3) := by decide +kernel
theorem dX1_fatFrom_7 : decode cX1_fatFrom 7 = .ok (.istore_n 3, 1) := by decide +kernel
theorem dX1_fatFrom_8 : decode cX1_fatFrom 8 = .ok (.iload_n 3, 1) := by decide +kernel
theorem dX1_fatFrom_9 : decode cX1_fatFrom 9 = .ok (.aload_n 0, 1) := by decide +kernel
theorem dX1_fatFrom_10 : decode cX1_fatFrom 10 = .ok (.getfield 11, 3) := by decide +kernel
theorem dX1_fatFrom_13 : decode cX1_fatFrom 13 = .ok (.arraylength, 1) := by decide +kernel
theorem dX1_fatFrom_14 : decode cX1_fatFrom 14 = .ok (.if_icmp .ge 20, 3) := by decide +kernel
theorem dX1_fatFrom_17 : decode cX1_fatFrom 17 = .ok (.iload_n 2, 1) := by decide +kernel
theorem dX1_fatFrom_18 : decode cX1_fatFrom 18 = .ok (.aload_n 0, 1) := by decide +kernel
theorem dX1_fatFrom_19 : decode cX1_fatFrom 19 = .ok (.getfield 11, 3) := by decide +kernel
theorem dX1_fatFrom_22 : decode cX1_fatFrom 22 = .ok (.iload_n 3, 1) := by decide +kernel
theorem dX1_fatFrom_23 : decode cX1_fatFrom 23 = .ok (.iaload, 1) := by decide +kernel
theorem dX1_fatFrom_24 : decode cX1_fatFrom 24 = .ok (.iload_n 3, 1) := by decide +kernel
theorem dX1_fatFrom_25 : decode cX1_fatFrom 25 = .ok (.ishl, 1) := by decide +kernel
theorem dX1_fatFrom_26 : decode cX1_fatFrom 26 = .ok (.iadd, 1) := by decide +kernel
theorem dX1_fatFrom_27 : decode cX1_fatFrom 27 = .ok (.istore_n 2, 1) := by decide +kernel
theorem dX1_fatFrom_28 : decode cX1_fatFrom 28 = .ok (.iinc 3 1, 3) := by decide +kernel
theorem dX1_fatFrom_31 : decode cX1_fatFrom 31 = .ok (.goto (-23), 3) := by decide +kernel
theorem dX1_fatFrom_34 : decode cX1_fatFrom 34 = .ok (.iload_n 2, 1) := by decide +kernel
theorem dX1_fatFrom_35 : decode cX1_fatFrom 35 = .ok (.ireturn, 1) := by decide +kernel
theorem dX1_left_0 : decode cX1_left 0 = .ok (.aload_n 0, 1) := by decide +kernel
theorem dX1_left_1 : decode cX1_left 1 = .ok (.iconst 0, 1) := by decide +kernel
theorem dX1_left_2 : decode cX1_left 2 = .ok (.invokevirtual 99, 3) := by decide +kernel
theorem dX1_left_5 : decode cX1_left 5 = .ok (.aload_n 0, 1) := by decide +kernel
theorem dX1_left_6 : decode cX1_left 6 = .ok (.aload_n 1, 1) := by decide +kernel
theorem dX1_left_7 : decode cX1_left 7 = .ok (.getfield 52, 3) := by decide +kernel
theorem dX1_left_10 : decode cX1_left 10 = .ok (.iconst 5, 1) := by decide +kernel
theorem dX1_left_11 : decode cX1_left 11 = .ok (.iaload, 1) := by decide +kernel
theorem dX1_left_12 : decode cX1_left 12 = .ok (.invokevirtual 99, 3) := by decide +kernel
theorem dX1_left_15 : decode cX1_left 15 = .ok (.isub, 1) := by decide +kernel
theorem dX1_left_16 : decode cX1_left 16 = .ok (.ireturn, 1) := by decide +kernel
theorem dX1_isMostlyGreatest_0 : decode cX1_isMostlyGreatest 0 = .ok (.bipush 10, 2) := by decide +kernel
theorem dX1_isMostlyGreatest_2 : decode cX1_isMostlyGreatest 2 = .ok (.aload_n 0, 1) := by decide +kernel
theorem dX1_isMostlyGreatest_3 : decode cX1_isMostlyGreatest 3 = .ok (.bipush 6, 2) := by decide +kernel
theorem dX1_isMostlyGreatest_5 : decode cX1_isMostlyGreatest 5 = .ok (.invokevirtual 99, 3) := by decide +kernel
theorem dX1_isMostlyGreatest_8 : decode cX1_isMostlyGreatest 8 = .ok (.imul, 1) := by decide +kernel
theorem dX1_isMostlyGreatest_9 : decode cX1_isMostlyGreatest 9 = .ok (.bipush 9, 2) := by decide +kernel
theorem dX1_isMostlyGreatest_11 : decode cX1_isMostlyGreatest 11 = .ok (.aload_n 0, 1) := by decide +kernel
theorem dX1_isMostlyGreatest_12 : decode cX1_isMostlyGreatest 12 = .ok (.iconst 0, 1) := by decide +kernel
theorem dX1_isMostlyGreatest_13 : decode cX1_isMostlyGreatest 13 = .ok (.invokevirtual 99, 3) := by decide +kernel
theorem dX1_isMostlyGreatest_16 : decode cX1_isMostlyGreatest 16 = .ok (.imul, 1) := by decide +kernel
theorem dX1_isMostlyGreatest_17 : decode cX1_isMostlyGreatest 17 = .ok (.if_icmp .lt 7, 3) := by decide +kernel
theorem dX1_isMostlyGreatest_20 : decode cX1_isMostlyGreatest 20 = .ok (.iconst 1, 1) := by decide +kernel
theorem dX1_isMostlyGreatest_21 : decode cX1_isMostlyGreatest 21 = .ok (.goto 4, 3) := by decide +kernel
theorem dX1_isMostlyGreatest_24 : decode cX1_isMostlyGreatest 24 = .ok (.iconst 0, 1) := by decide +kernel
theorem dX1_isMostlyGreatest_25 : decode cX1_isMostlyGreatest 25 = .ok (.ireturn, 1) := by decide +kernel
theorem dX1_dropsOf_0 : decode cX1_dropsOf 0 = .ok (.iload_n 1, 1) := by decide +kernel
theorem dX1_dropsOf_1 : decode cX1_dropsOf 1 = .ok (.ifCond .lt 21, 3) := by decide +kernel
theorem dX1_dropsOf_4 : decode cX1_dropsOf 4 = .ok (.iload_n 1, 1) := by decide +kernel
theorem dX1_dropsOf_5 : decode cX1_dropsOf 5 = .ok (.aload_n 0, 1) := by decide +kernel
theorem dX1_dropsOf_6 : decode cX1_dropsOf 6 = .ok (.getfield 11, 3) := by decide +kernel
theorem dX1_dropsOf_9 : decode cX1_dropsOf 9 = .ok (.arraylength, 1) := by decide +kernel
theorem dX1_dropsOf_10 : decode cX1_dropsOf 10 = .ok (.if_icmp .ge 12, 3) := by decide +kernel
theorem dX1_dropsOf_13 : decode cX1_dropsOf 13 = .ok (.aload_n 0, 1) := by decide +kernel
theorem dX1_dropsOf_14 : decode cX1_dropsOf 14 = .ok (.getfield 11, 3) := by decide +kernel
theorem dX1_dropsOf_17 : decode cX1_dropsOf 17 = .ok (.iload_n 1, 1) := by decide +kernel
theorem dX1_dropsOf_18 : decode cX1_dropsOf 18 = .ok (.iaload, 1) := by decide +kernel
theorem dX1_dropsOf_19 : decode cX1_dropsOf 19 = .ok (.goto 4, 3) := by decide +kernel
theorem dX1_dropsOf_22 : decode cX1_dropsOf 22 = .ok (.iconst (-1), 1) := by decide +kernel
theorem dX1_dropsOf_23 : decode cX1_dropsOf 23 = .ok (.ireturn, 1) := by decide +kernel
theorem dX1_tell_0 : decode cX1_tell 0 = .ok (.iload_n 2, 1) := by decide +kernel
theorem dX1_tell_1 : decode cX1_tell 1 = .ok (.tableswitch 118 0 9 #[55, 60, 65, 71, 76, 81, 86, 92, 98, 112], 55) := by decide +kernel
theorem dX1_tell_56 : decode cX1_tell 56 = .ok (.aload_n 0, 1) := by decide +kernel
theorem dX1_tell_57 : decode cX1_tell 57 = .ok (.getfield 25, 3) := by decide +kernel
theorem dX1_tell_60 : decode cX1_tell 60 = .ok (.ireturn, 1) := by decide +kernel
theorem dX1_tell_61 : decode cX1_tell 61 = .ok (.aload_n 0, 1) := by decide +kernel
theorem dX1_tell_62 : decode cX1_tell 62 = .ok (.getfield 34, 3) := by decide +kernel
theorem dX1_tell_65 : decode cX1_tell 65 = .ok (.ireturn, 1) := by decide +kernel
theorem dX1_tell_66 : decode cX1_tell 66 = .ok (.aload_n 0, 1) := by decide +kernel
theorem dX1_tell_67 : decode cX1_tell 67 = .ok (.aload_n 1, 1) := by decide +kernel
theorem dX1_tell_68 : decode cX1_tell 68 = .ok (.invokevirtual 95, 3) := by decide +kernel
theorem dX1_tell_71 : decode cX1_tell 71 = .ok (.ireturn, 1) := by decide +kernel
theorem dX1_tell_72 : decode cX1_tell 72 = .ok (.aload_n 0, 1) := by decide +kernel
theorem dX1_tell_73 : decode cX1_tell 73 = .ok (.getfield 37, 3) := by decide +kernel
theorem dX1_tell_76 : decode cX1_tell 76 = .ok (.ireturn, 1) := by decide +kernel
theorem dX1_tell_77 : decode cX1_tell 77 = .ok (.aload_n 0, 1) := by decide +kernel
theorem dX1_tell_78 : decode cX1_tell 78 = .ok (.getfield 40, 3) := by decide +kernel
theorem dX1_tell_81 : decode cX1_tell 81 = .ok (.ireturn, 1) := by decide +kernel
theorem dX1_tell_82 : decode cX1_tell 82 = .ok (.aload_n 0, 1) := by decide +kernel
theorem dX1_tell_83 : decode cX1_tell 83 = .ok (.getfield 15, 3) := by decide +kernel
theorem dX1_tell_86 : decode cX1_tell 86 = .ok (.ireturn, 1) := by decide +kernel
theorem dX1_tell_87 : decode cX1_tell 87 = .ok (.aload_n 0, 1) := by decide +kernel
theorem dX1_tell_88 : decode cX1_tell 88 = .ok (.aload_n 1, 1) := by decide +kernel
theorem dX1_tell_89 : decode cX1_tell 89 = .ok (.invokevirtual 102, 3) := by decide +kernel
theorem dX1_tell_92 : decode cX1_tell 92 = .ok (.ireturn, 1) := by decide +kernel
theorem dX1_tell_93 : decode cX1_tell 93 = .ok (.aload_n 0, 1) := by decide +kernel
theorem dX1_tell_94 : decode cX1_tell 94 = .ok (.iconst 0, 1) := by decide +kernel
theorem dX1_tell_95 : decode cX1_tell 95 = .ok (.invokevirtual 99, 3) := by decide +kernel
theorem dX1_tell_98 : decode cX1_tell 98 = .ok (.ireturn, 1) := by decide +kernel
theorem dX1_tell_99 : decode cX1_tell 99 = .ok (.aload_n 0, 1) := by decide +kernel
theorem dX1_tell_100 : decode cX1_tell 100 = .ok (.aload_n 1, 1) := by decide +kernel
theorem dX1_tell_101 : decode cX1_tell 101 = .ok (.invokevirtual 75, 3) := by decide +kernel
theorem dX1_tell_104 : decode cX1_tell 104 = .ok (.ifCond .eq 7, 3) := by decide +kernel
theorem dX1_tell_107 : decode cX1_tell 107 = .ok (.iconst 1, 1) := by decide +kernel
theorem dX1_tell_108 : decode cX1_tell 108 = .ok (.goto 4, 3) := by decide +kernel
theorem dX1_tell_111 : decode cX1_tell 111 = .ok (.iconst 0, 1) := by decide +kernel
theorem dX1_tell_112 : decode cX1_tell 112 = .ok (.ireturn, 1) := by decide +kernel
theorem dX1_tell_113 : decode cX1_tell 113 = .ok (.aload_n 0, 1) := by decide +kernel
theorem dX1_tell_114 : decode cX1_tell 114 = .ok (.aload_n 1, 1) := by decide +kernel
theorem dX1_tell_115 : decode cX1_tell 115 = .ok (.invokevirtual 105, 3) := by decide +kernel
theorem dX1_tell_118 : decode cX1_tell 118 = .ok (.ireturn, 1) := by decide +kernel
theorem dX1_tell_119 : decode cX1_tell 119 = .ok (.iconst (-1), 1) := by decide +kernel
theorem dX1_tell_120 : decode cX1_tell 120 = .ok (.ireturn, 1) := by decide +kernel
theorem dX1_outcome_0 : decode cX1_outcome 0 = .ok (.aload_n 0, 1) := by decide +kernel
theorem dX1_outcome_1 : decode cX1_outcome 1 = .ok (.aload_n 1, 1) := by decide +kernel
theorem dX1_outcome_2 : decode cX1_outcome 2 = .ok (.invokevirtual 75, 3) := by decide +kernel
theorem dX1_outcome_5 : decode cX1_outcome 5 = .ok (.ifCond .eq 5, 3) := by decide +kernel
theorem dX1_outcome_8 : decode cX1_outcome 8 = .ok (.iconst 2, 1) := by decide +kernel
theorem dX1_outcome_9 : decode cX1_outcome 9 = .ok (.ireturn, 1) := by decide +kernel
theorem dX1_outcome_10 : decode cX1_outcome 10 = .ok (.aload_n 0, 1) := by decide +kernel
theorem dX1_outcome_11 : decode cX1_outcome 11 = .ok (.invokevirtual 55, 3) := by decide +kernel
theorem dX1_outcome_14 : decode cX1_outcome 14 = .ok (.ifCond .ne 5, 3) := by decide +kernel
theorem dX1_outcome_17 : decode cX1_outcome 17 = .ok (.iconst 0, 1) := by decide +kernel
theorem dX1_outcome_18 : decode cX1_outcome 18 = .ok (.ireturn, 1) := by decide +kernel
theorem dX1_outcome_19 : decode cX1_outcome 19 = .ok (.aload_n 0, 1) := by decide +kernel
theorem dX1_outcome_20 : decode cX1_outcome 20 = .ok (.aload_n 1, 1) := by decide +kernel
theorem dX1_outcome_21 : decode cX1_outcome 21 = .ok (.invokevirtual 95, 3) := by decide +kernel
theorem dX1_outcome_24 : decode cX1_outcome 24 = .ok (.aload_n 1, 1) := by decide +kernel
theorem dX1_outcome_25 : decode cX1_outcome 25 = .ok (.getfield 52, 3) := by decide +kernel
theorem dX1_outcome_28 : decode cX1_outcome 28 = .ok (.bipush 7, 2) := by decide +kernel
theorem dX1_outcome_30 : decode cX1_outcome 30 = .ok (.iaload, 1) := by decide +kernel
theorem dX1_outcome_31 : decode cX1_outcome 31 = .ok (.if_icmp .ge 5, 3) := by decide +kernel
theorem dX1_outcome_34 : decode cX1_outcome 34 = .ok (.iconst 3, 1) := by decide +kernel
theorem dX1_outcome_35 : decode cX1_outcome 35 = .ok (.ireturn, 1) := by decide +kernel
theorem dX1_outcome_36 : decode cX1_outcome 36 = .ok (.aload_n 0, 1) := by decide +kernel
theorem dX1_outcome_37 : decode cX1_outcome 37 = .ok (.invokevirtual 108, 3) := by decide +kernel
theorem dX1_outcome_40 : decode cX1_outcome 40 = .ok (.ifCond .eq 5, 3) := by decide +kernel
theorem dX1_outcome_43 : decode cX1_outcome 43 = .ok (.iconst 5, 1) := by decide +kernel
theorem dX1_outcome_44 : decode cX1_outcome 44 = .ok (.ireturn, 1) := by decide +kernel
theorem dX1_outcome_45 : decode cX1_outcome 45 = .ok (.bipush 10, 2) := by decide +kernel
theorem dX1_outcome_47 : decode cX1_outcome 47 = .ok (.aload_n 0, 1) := by decide +kernel
theorem dX1_outcome_48 : decode cX1_outcome 48 = .ok (.aload_n 1, 1) := by decide +kernel
theorem dX1_outcome_49 : decode cX1_outcome 49 = .ok (.invokevirtual 102, 3) := by decide +kernel
theorem dX1_outcome_52 : decode cX1_outcome 52 = .ok (.imul, 1) := by decide +kernel
theorem dX1_outcome_53 : decode cX1_outcome 53 = .ok (.aload_n 0, 1) := by decide +kernel
theorem dX1_outcome_54 : decode cX1_outcome 54 = .ok (.iconst 0, 1) := by decide +kernel
theorem dX1_outcome_55 : decode cX1_outcome 55 = .ok (.invokevirtual 99, 3) := by decide +kernel
theorem dX1_outcome_58 : decode cX1_outcome 58 = .ok (.if_icmp .le 7, 3) := by decide +kernel
theorem dX1_outcome_61 : decode cX1_outcome 61 = .ok (.iconst 4, 1) := by decide +kernel
theorem dX1_outcome_62 : decode cX1_outcome 62 = .ok (.goto 4, 3) := by decide +kernel
theorem dX1_outcome_65 : decode cX1_outcome 65 = .ok (.iconst 1, 1) := by decide +kernel
theorem dX1_outcome_66 : decode cX1_outcome 66 = .ok (.ireturn, 1) := by decide +kernel
theorem dX2_init_0 : decode cX2_init 0 = .ok (.aload_n 0, 1) := by decide +kernel
theorem dX2_init_1 : decode cX2_init 1 = .ok (.invokespecial 1, 3) := by decide +kernel
theorem dX2_init_4 : decode cX2_init 4 = .ok (.aload_n 0, 1) := by decide +kernel
theorem dX2_init_5 : decode cX2_init 5 = .ok (.new 7, 3) := by decide +kernel
theorem dX2_init_8 : decode cX2_init 8 = .ok (.dup, 1) := by decide +kernel
theorem dX2_init_9 : decode cX2_init 9 = .ok (.invokespecial 9, 3) := by decide +kernel
theorem dX2_init_12 : decode cX2_init 12 = .ok (.putfield 10, 3) := by decide +kernel
theorem dX2_init_15 : decode cX2_init 15 = .ok (.return_, 1) := by decide +kernel
theorem dX4_init_0 : decode cX4_init 0 = .ok (.aload_n 0, 1) := by decide +kernel
theorem dX4_init_1 : decode cX4_init 1 = .ok (.invokespecial 1, 3) := by decide +kernel
theorem dX4_init_4 : decode cX4_init 4 = .ok (.aload_n 0, 1) := by decide +kernel
theorem dX4_init_5 : decode cX4_init 5 = .ok (.bipush 40, 2) := by decide +kernel
theorem dX4_init_7 : decode cX4_init 7 = .ok (.newarray .int, 2) := by decide +kernel
theorem dX4_init_9 : decode cX4_init 9 = .ok (.putfield 9, 3) := by decide +kernel
theorem dX4_init_12 : decode cX4_init 12 = .ok (.aload_n 0, 1) := by decide +kernel
theorem dX4_init_13 : decode cX4_init 13 = .ok (.iconst (-1), 1) := by decide +kernel
theorem dX4_init_14 : decode cX4_init 14 = .ok (.putfield 13, 3) := by decide +kernel
theorem dX4_init_17 : decode cX4_init 17 = .ok (.return_, 1) := by decide +kernel
theorem dX4_isThere_0 : decode cX4_isThere 0 = .ok (.aload_n 0, 1) := by decide +kernel
theorem dX4_isThere_1 : decode cX4_isThere 1 = .ok (.getfield 13, 3) := by decide +kernel
theorem dX4_isThere_4 : decode cX4_isThere 4 = .ok (.iconst (-1), 1) := by decide +kernel
theorem dX4_isThere_5 : decode cX4_isThere 5 = .ok (.if_icmp .eq 7, 3) := by decide +kernel
theorem dX4_isThere_8 : decode cX4_isThere 8 = .ok (.iconst 1, 1) := by decide +kernel
theorem dX4_isThere_9 : decode cX4_isThere 9 = .ok (.goto 4, 3) := by decide +kernel
theorem dX4_isThere_12 : decode cX4_isThere 12 = .ok (.iconst 0, 1) := by decide +kernel
theorem dX4_isThere_13 : decode cX4_isThere 13 = .ok (.ireturn, 1) := by decide +kernel
theorem dX4_renew_0 : decode cX4_renew 0 = .ok (.aload_n 0, 1) := by decide +kernel
theorem dX4_renew_1 : decode cX4_renew 1 = .ok (.iload_n 1, 1) := by decide +kernel
theorem dX4_renew_2 : decode cX4_renew 2 = .ok (.putfield 17, 3) := by decide +kernel
theorem dX4_renew_5 : decode cX4_renew 5 = .ok (.aload_n 0, 1) := by decide +kernel
theorem dX4_renew_6 : decode cX4_renew 6 = .ok (.iload_n 2, 1) := by decide +kernel
theorem dX4_renew_7 : decode cX4_renew 7 = .ok (.putfield 13, 3) := by decide +kernel
theorem dX4_renew_10 : decode cX4_renew 10 = .ok (.iconst 0, 1) := by decide +kernel
theorem dX4_renew_11 : decode cX4_renew 11 = .ok (.istore_n 3, 1) := by decide +kernel
theorem dX4_renew_12 : decode cX4_renew 12 = .ok (.iload_n 3, 1) := by decide +kernel
theorem dX4_renew_13 : decode cX4_renew 13 = .ok (.aload_n 0, 1) := by decide +kernel
theorem dX4_renew_14 : decode cX4_renew 14 = .ok (.getfield 9, 3) := by decide +kernel
theorem dX4_renew_17 : decode cX4_renew 17 = .ok (.arraylength, 1) := by decide +kernel
theorem dX4_renew_18 : decode cX4_renew 18 = .ok (.if_icmp .ge 16, 3) := by decide +kernel
theorem dX4_renew_21 : decode cX4_renew 21 = .ok (.aload_n 0, 1) := by decide +kernel
theorem dX4_renew_22 : decode cX4_renew 22 = .ok (.getfield 9, 3) := by decide +kernel
theorem dX4_renew_25 : decode cX4_renew 25 = .ok (.iload_n 3, 1) := by decide +kernel
theorem dX4_renew_26 : decode cX4_renew 26 = .ok (.iconst 0, 1) := by decide +kernel
theorem dX4_renew_27 : decode cX4_renew 27 = .ok (.iastore, 1) := by decide +kernel
theorem dX4_renew_28 : decode cX4_renew 28 = .ok (.iinc 3 1, 3) := by decide +kernel
theorem dX4_renew_31 : decode cX4_renew 31 = .ok (.goto (-19), 3) := by decide +kernel
theorem dX4_renew_34 : decode cX4_renew 34 = .ok (.return_, 1) := by decide +kernel
theorem dX4_put_0 : decode cX4_put 0 = .ok (.aload_n 0, 1) := by decide +kernel
theorem dX4_put_1 : decode cX4_put 1 = .ok (.invokevirtual 20, 3) := by decide +kernel
theorem dX4_put_4 : decode cX4_put 4 = .ok (.ifCond .ne 5, 3) := by decide +kernel
theorem dX4_put_7 : decode cX4_put 7 = .ok (.iconst 1, 1) := by decide +kernel
theorem dX4_put_8 : decode cX4_put 8 = .ok (.ireturn, 1) := by decide +kernel
theorem dX4_put_9 : decode cX4_put 9 = .ok (.iload_n 1, 1) := by decide +kernel
theorem dX4_put_10 : decode cX4_put 10 = .ok (.ifCond .lt 20, 3) := by decide +kernel
theorem dX4_put_13 : decode cX4_put 13 = .ok (.iload_n 1, 1) := by decide +kernel
theorem dX4_put_14 : decode cX4_put 14 = .ok (.aload_n 0, 1) := by decide +kernel
theorem dX4_put_15 : decode cX4_put 15 = .ok (.getfield 13, 3) := by decide +kernel
theorem dX4_put_18 : decode cX4_put 18 = .ok (.if_icmp .ge 12, 3) := by decide +kernel
theorem dX4_put_21 : decode cX4_put 21 = .ok (.iload_n 1, 1) := by decide +kernel
theorem dX4_put_22 : decode cX4_put 22 = .ok (.aload_n 0, 1) := by decide +kernel
theorem dX4_put_23 : decode cX4_put 23 = .ok (.getfield 9, 3) := by decide +kernel
theorem dX4_put_26 : decode cX4_put 26 = .ok (.arraylength, 1) := by decide +kernel
theorem dX4_put_27 : decode cX4_put 27 = .ok (.if_icmp .lt 5, 3) := by decide +kernel
theorem dX4_put_30 : decode cX4_put 30 = .ok (.iconst 2, 1) := by decide +kernel
theorem dX4_put_31 : decode cX4_put 31 = .ok (.ireturn, 1) := by decide +kernel
theorem dX4_put_32 : decode cX4_put 32 = .ok (.aload_n 0, 1) := by decide +kernel
theorem dX4_put_33 : decode cX4_put 33 = .ok (.getfield 9, 3) := by decide +kernel
theorem dX4_put_36 : decode cX4_put 36 = .ok (.iload_n 1, 1) := by decide +kernel
theorem dX4_put_37 : decode cX4_put 37 = .ok (.aload_n 0, 1) := by decide +kernel
theorem dX4_put_38 : decode cX4_put 38 = .ok (.getfield 17, 3) := by decide +kernel
theorem dX4_put_41 : decode cX4_put 41 = .ok (.ifCond .ne 8, 3) := by decide +kernel
theorem dX4_put_44 : decode cX4_put 44 = .ok (.iload_n 2, 1) := by decide +kernel
theorem dX4_put_45 : decode cX4_put 45 = .ok (.i2b, 1) := by decide +kernel
theorem dX4_put_46 : decode cX4_put 46 = .ok (.goto 17, 3) := by decide +kernel
theorem dX4_put_49 : decode cX4_put 49 = .ok (.aload_n 0, 1) := by decide +kernel
theorem dX4_put_50 : decode cX4_put 50 = .ok (.getfield 17, 3) := by decide +kernel
theorem dX4_put_53 : decode cX4_put 53 = .ok (.iconst 1, 1) := by decide +kernel
theorem dX4_put_54 : decode cX4_put 54 = .ok (.if_icmp .ne 8, 3) := by decide +kernel
theorem dX4_put_57 : decode cX4_put 57 = .ok (.iload_n 2, 1) := by decide +kernel
theorem dX4_put_58 : decode cX4_put 58 = .ok (.i2s, 1) := by decide +kernel
theorem dX4_put_59 : decode cX4_put 59 = .ok (.goto 4, 3) := by decide +kernel
theorem dX4_put_62 : decode cX4_put 62 = .ok (.iload_n 2, 1) := by decide +kernel
theorem dX4_put_63 : decode cX4_put 63 = .ok (.iastore, 1) := by decide +kernel
theorem dX4_put_64 : decode cX4_put 64 = .ok (.iconst 0, 1) := by decide +kernel
theorem dX4_put_65 : decode cX4_put 65 = .ok (.ireturn, 1) := by decide +kernel
theorem dX4_cellAt_0 : decode cX4_cellAt 0 = .ok (.iload_n 1, 1) := by decide +kernel
theorem dX4_cellAt_1 : decode cX4_cellAt 1 = .ok (.ifCond .lt 29, 3) := by decide +kernel
theorem dX4_cellAt_4 : decode cX4_cellAt 4 = .ok (.iload_n 1, 1) := by decide +kernel
theorem dX4_cellAt_5 : decode cX4_cellAt 5 = .ok (.aload_n 0, 1) := by decide +kernel
theorem dX4_cellAt_6 : decode cX4_cellAt 6 = .ok (.getfield 13, 3) := by decide +kernel
theorem dX4_cellAt_9 : decode cX4_cellAt 9 = .ok (.if_icmp .ge 21, 3) := by decide +kernel
theorem dX4_cellAt_12 : decode cX4_cellAt 12 = .ok (.iload_n 1, 1) := by decide +kernel
theorem dX4_cellAt_13 : decode cX4_cellAt 13 = .ok (.aload_n 0, 1) := by decide +kernel
theorem dX4_cellAt_14 : decode cX4_cellAt 14 = .ok (.getfield 9, 3) := by decide +kernel
theorem dX4_cellAt_17 : decode cX4_cellAt 17 = .ok (.arraylength, 1) := by decide +kernel
theorem dX4_cellAt_18 : decode cX4_cellAt 18 = .ok (.if_icmp .ge 12, 3) := by decide +kernel
theorem dX4_cellAt_21 : decode cX4_cellAt 21 = .ok (.aload_n 0, 1) := by decide +kernel
theorem dX4_cellAt_22 : decode cX4_cellAt 22 = .ok (.getfield 9, 3) := by decide +kernel
theorem dX4_cellAt_25 : decode cX4_cellAt 25 = .ok (.iload_n 1, 1) := by decide +kernel
theorem dX4_cellAt_26 : decode cX4_cellAt 26 = .ok (.iaload, 1) := by decide +kernel
theorem dX4_cellAt_27 : decode cX4_cellAt 27 = .ok (.goto 4, 3) := by decide +kernel
theorem dX4_cellAt_30 : decode cX4_cellAt 30 = .ok (.iconst 0, 1) := by decide +kernel
theorem dX4_cellAt_31 : decode cX4_cellAt 31 = .ok (.ireturn, 1) := by decide +kernel
theorem dX4_pairsWhole_0 : decode cX4_pairsWhole 0 = .ok (.aload_n 0, 1) := by decide +kernel
theorem dX4_pairsWhole_1 : decode cX4_pairsWhole 1 = .ok (.invokevirtual 20, 3) := by decide +kernel
theorem dX4_pairsWhole_4 : decode cX4_pairsWhole 4 = .ok (.ifCond .eq 23, 3) := by decide +kernel
theorem dX4_pairsWhole_7 : decode cX4_pairsWhole 7 = .ok (.aload_n 0, 1) := by decide +kernel
theorem dX4_pairsWhole_8 : decode cX4_pairsWhole 8 = .ok (.getfield 17, 3) := by decide +kernel
theorem dX4_pairsWhole_11 : decode cX4_pairsWhole 11 = .ok (.iload_n 1, 1) := by decide +kernel
theorem dX4_pairsWhole_12 : decode cX4_pairsWhole 12 = .ok (.if_icmp .ne 15, 3) := by decide +kernel
theorem dX4_pairsWhole_15 : decode cX4_pairsWhole 15 = .ok (.iload_n 2, 1) := by decide +kernel
theorem dX4_pairsWhole_16 : decode cX4_pairsWhole 16 = .ok (.ifCond .lt 11, 3) := by decide +kernel
theorem dX4_pairsWhole_19 : decode cX4_pairsWhole 19 = .ok (.iload_n 2, 1) := by decide +kernel
theorem dX4_pairsWhole_20 : decode cX4_pairsWhole 20 = .ok (.aload_n 0, 1) := by decide +kernel
theorem dX4_pairsWhole_21 : decode cX4_pairsWhole 21 = .ok (.getfield 13, 3) := by decide +kernel
theorem dX4_pairsWhole_24 : decode cX4_pairsWhole 24 = .ok (.if_icmp .lt 5, 3) := by decide +kernel
theorem dX4_pairsWhole_27 : decode cX4_pairsWhole 27 = .ok (.iconst 0, 1) := by decide +kernel
theorem dX4_pairsWhole_28 : decode cX4_pairsWhole 28 = .ok (.ireturn, 1) := by decide +kernel
theorem dX4_pairsWhole_29 : decode cX4_pairsWhole 29 = .ok (.iload_n 3, 1) := by decide +kernel
theorem dX4_pairsWhole_30 : decode cX4_pairsWhole 30 = .ok (.aload_n 0, 1) := by decide +kernel
theorem dX4_pairsWhole_31 : decode cX4_pairsWhole 31 = .ok (.getfield 13, 3) := by decide +kernel
theorem dX4_pairsWhole_34 : decode cX4_pairsWhole 34 = .ok (.iload_n 2, 1) := by decide +kernel
theorem dX4_pairsWhole_35 : decode cX4_pairsWhole 35 = .ok (.isub, 1) := by decide +kernel
theorem dX4_pairsWhole_36 : decode cX4_pairsWhole 36 = .ok (.iconst 2, 1) := by decide +kernel
theorem dX4_pairsWhole_37 : decode cX4_pairsWhole 37 = .ok (.idiv, 1) := by decide +kernel
theorem dX4_pairsWhole_38 : decode cX4_pairsWhole 38 = .ok (.invokestatic 24, 3) := by decide +kernel
theorem dX4_pairsWhole_41 : decode cX4_pairsWhole 41 = .ok (.ireturn, 1) := by decide +kernel
theorem dX4_faultAs_0 : decode cX4_faultAs 0 = .ok (.aload_n 0, 1) := by decide +kernel
theorem dX4_faultAs_1 : decode cX4_faultAs 1 = .ok (.invokevirtual 20, 3) := by decide +kernel
theorem dX4_faultAs_4 : decode cX4_faultAs 4 = .ok (.ifCond .ne 5, 3) := by decide +kernel
theorem dX4_faultAs_7 : decode cX4_faultAs 7 = .ok (.iconst 1, 1) := by decide +kernel
theorem dX4_faultAs_8 : decode cX4_faultAs 8 = .ok (.ireturn, 1) := by decide +kernel
theorem dX4_faultAs_9 : decode cX4_faultAs 9 = .ok (.aload_n 0, 1) := by decide +kernel
theorem dX4_faultAs_10 : decode cX4_faultAs 10 = .ok (.getfield 17, 3) := by decide +kernel
theorem dX4_faultAs_13 : decode cX4_faultAs 13 = .ok (.iload_n 1, 1) := by decide +kernel
theorem dX4_faultAs_14 : decode cX4_faultAs 14 = .ok (.if_icmp .ne 7, 3) := by decide +kernel
theorem dX4_faultAs_17 : decode cX4_faultAs 17 = .ok (.iconst 2, 1) := by decide +kernel
theorem dX4_faultAs_18 : decode cX4_faultAs 18 = .ok (.goto 4, 3) := by decide +kernel
theorem dX4_faultAs_21 : decode cX4_faultAs 21 = .ok (.iconst 3, 1) := by decide +kernel
theorem dX4_faultAs_22 : decode cX4_faultAs 22 = .ok (.ireturn, 1) := by decide +kernel
theorem dX6_init_0 : decode cX6_init 0 = .ok (.aload_n 0, 1) := by decide +kernel
theorem dX6_init_1 : decode cX6_init 1 = .ok (.invokespecial 1, 3) := by decide +kernel
theorem dX6_init_4 : decode cX6_init 4 = .ok (.aload_n 0, 1) := by decide +kernel
theorem dX6_init_5 : decode cX6_init 5 = .ok (.getstatic 7, 3) := by decide +kernel
theorem dX6_init_8 : decode cX6_init 8 = .ok (.invokevirtual 13, 3) := by decide +kernel
theorem dX6_init_11 : decode cX6_init 11 = .ok (.checkcast 14, 3) := by decide +kernel
theorem dX6_init_14 : decode cX6_init 14 = .ok (.putfield 18, 3) := by decide +kernel
theorem dX6_init_17 : decode cX6_init 17 = .ok (.aload_n 0, 1) := by decide +kernel
theorem dX6_init_18 : decode cX6_init 18 = .ok (.getstatic 21, 3) := by decide +kernel
theorem dX6_init_21 : decode cX6_init 21 = .ok (.invokevirtual 13, 3) := by decide +kernel
theorem dX6_init_24 : decode cX6_init 24 = .ok (.checkcast 14, 3) := by decide +kernel
theorem dX6_init_27 : decode cX6_init 27 = .ok (.putfield 24, 3) := by decide +kernel
theorem dX6_init_30 : decode cX6_init 30 = .ok (.aload_n 0, 1) := by decide +kernel
theorem dX6_init_31 : decode cX6_init 31 = .ok (.bipush 8, 2) := by decide +kernel
theorem dX6_init_33 : decode cX6_init 33 = .ok (.newarray .int, 2) := by decide +kernel
theorem dX6_init_35 : decode cX6_init 35 = .ok (.putfield 27, 3) := by decide +kernel
theorem dX6_init_38 : decode cX6_init 38 = .ok (.aload_n 0, 1) := by decide +kernel
theorem dX6_init_39 : decode cX6_init 39 = .ok (.bipush 8, 2) := by decide +kernel
theorem dX6_init_41 : decode cX6_init 41 = .ok (.newarray .int, 2) := by decide +kernel
theorem dX6_init_43 : decode cX6_init 43 = .ok (.putfield 30, 3) := by decide +kernel
theorem dX6_init_46 : decode cX6_init 46 = .ok (.return_, 1) := by decide +kernel
theorem dX6_becomeFirst_0 : decode cX6_becomeFirst 0 = .ok (.getstatic 7, 3) := by decide +kernel
theorem dX6_becomeFirst_3 : decode cX6_becomeFirst 3 = .ok (.iconst 0, 1) := by decide +kernel
theorem dX6_becomeFirst_4 : decode cX6_becomeFirst 4 = .ok (.aload_n 0, 1) := by decide +kernel
theorem dX6_becomeFirst_5 : decode cX6_becomeFirst 5 = .ok (.getfield 18, 3) := by decide +kernel
theorem dX6_becomeFirst_8 : decode cX6_becomeFirst 8 = .ok (.iconst 0, 1) := by decide +kernel
theorem dX6_becomeFirst_9 : decode cX6_becomeFirst 9 = .ok (.aload_n 0, 1) := by decide +kernel
theorem dX6_becomeFirst_10 : decode cX6_becomeFirst 10 = .ok (.getfield 18, 3) := by decide +kernel
theorem dX6_becomeFirst_13 : decode cX6_becomeFirst 13 = .ok (.arraylength, 1) := by decide +kernel
theorem dX6_becomeFirst_14 : decode cX6_becomeFirst 14 = .ok (.invokestatic 33, 3) := by decide +kernel
theorem dX6_becomeFirst_17 : decode cX6_becomeFirst 17 = .ok (.getstatic 21, 3) := by decide +kernel
theorem dX6_becomeFirst_20 : decode cX6_becomeFirst 20 = .ok (.iconst 0, 1) := by decide +kernel
theorem dX6_becomeFirst_21 : decode cX6_becomeFirst 21 = .ok (.aload_n 0, 1) := by decide +kernel
theorem dX6_becomeFirst_22 : decode cX6_becomeFirst 22 = .ok (.getfield 24, 3) := by decide +kernel
theorem dX6_becomeFirst_25 : decode cX6_becomeFirst 25 = .ok (.iconst 0, 1) := by decide +kernel
theorem dX6_becomeFirst_26 : decode cX6_becomeFirst 26 = .ok (.aload_n 0, 1) := by decide +kernel
theorem dX6_becomeFirst_27 : decode cX6_becomeFirst 27 = .ok (.getfield 24, 3) := by decide +kernel
theorem dX6_becomeFirst_30 : decode cX6_becomeFirst 30 = .ok (.arraylength, 1) := by decide +kernel
theorem dX6_becomeFirst_31 : decode cX6_becomeFirst 31 = .ok (.invokestatic 33, 3) := by decide +kernel
theorem dX6_becomeFirst_34 : decode cX6_becomeFirst 34 = .ok (.aload_n 0, 1) := by decide +kernel
theorem dX6_becomeFirst_35 : decode cX6_becomeFirst 35 = .ok (.iconst 0, 1) := by decide +kernel
theorem dX6_becomeFirst_36 : decode cX6_becomeFirst 36 = .ok (.putfield 39, 3) := by decide +kernel
theorem dX6_becomeFirst_39 : decode cX6_becomeFirst 39 = .ok (.return_, 1) := by decide +kernel
theorem dX6_becomeLike_0 : decode cX6_becomeLike 0 = .ok (.aload_n 1, 1) := by decide +kernel
theorem dX6_becomeLike_1 : decode cX6_becomeLike 1 = .ok (.getfield 18, 3) := by decide +kernel
theorem dX6_becomeLike_4 : decode cX6_becomeLike 4 = .ok (.iconst 0, 1) := by decide +kernel
theorem dX6_becomeLike_5 : decode cX6_becomeLike 5 = .ok (.aload_n 0, 1) := by decide +kernel
theorem dX6_becomeLike_6 : decode cX6_becomeLike 6 = .ok (.getfield 18, 3) := by decide +kernel
theorem dX6_becomeLike_9 : decode cX6_becomeLike 9 = .ok (.iconst 0, 1) := by decide +kernel
theorem dX6_becomeLike_10 : decode cX6_becomeLike 10 = .ok (.aload_n 0, 1) := by decide +kernel
theorem dX6_becomeLike_11 : decode cX6_becomeLike 11 = .ok (.getfield 18, 3) := by decide +kernel
theorem dX6_becomeLike_14 : decode cX6_becomeLike 14 = .ok (.arraylength, 1) := by decide +kernel
theorem dX6_becomeLike_15 : decode cX6_becomeLike 15 = .ok (.invokestatic 33, 3) := by decide +kernel
theorem dX6_becomeLike_18 : decode cX6_becomeLike 18 = .ok (.aload_n 1, 1) := by decide +kernel
theorem dX6_becomeLike_19 : decode cX6_becomeLike 19 = .ok (.getfield 24, 3) := by decide +kernel
theorem dX6_becomeLike_22 : decode cX6_becomeLike 22 = .ok (.iconst 0, 1) := by decide +kernel
theorem dX6_becomeLike_23 : decode cX6_becomeLike 23 = .ok (.aload_n 0, 1) := by decide +kernel
theorem dX6_becomeLike_24 : decode cX6_becomeLike 24 = .ok (.getfield 24, 3) := by decide +kernel
theorem dX6_becomeLike_27 : decode cX6_becomeLike 27 = .ok (.iconst 0, 1) := by decide +kernel
theorem dX6_becomeLike_28 : decode cX6_becomeLike 28 = .ok (.aload_n 0, 1) := by decide +kernel
theorem dX6_becomeLike_29 : decode cX6_becomeLike 29 = .ok (.getfield 24, 3) := by decide +kernel
theorem dX6_becomeLike_32 : decode cX6_becomeLike 32 = .ok (.arraylength, 1) := by decide +kernel
theorem dX6_becomeLike_33 : decode cX6_becomeLike 33 = .ok (.invokestatic 33, 3) := by decide +kernel
theorem dX6_becomeLike_36 : decode cX6_becomeLike 36 = .ok (.aload_n 1, 1) := by decide +kernel
theorem dX6_becomeLike_37 : decode cX6_becomeLike 37 = .ok (.getfield 27, 3) := by decide +kernel
theorem dX6_becomeLike_40 : decode cX6_becomeLike 40 = .ok (.iconst 0, 1) := by decide +kernel
theorem dX6_becomeLike_41 : decode cX6_becomeLike 41 = .ok (.aload_n 0, 1) := by decide +kernel
theorem dX6_becomeLike_42 : decode cX6_becomeLike 42 = .ok (.getfield 27, 3) := by decide +kernel
theorem dX6_becomeLike_45 : decode cX6_becomeLike 45 = .ok (.iconst 0, 1) := by decide +kernel
theorem dX6_becomeLike_46 : decode cX6_becomeLike 46 = .ok (.aload_n 0, 1) := by decide +kernel
theorem dX6_becomeLike_47 : decode cX6_becomeLike 47 = .ok (.getfield 27, 3) := by decide +kernel
theorem dX6_becomeLike_50 : decode cX6_becomeLike 50 = .ok (.arraylength, 1) := by decide +kernel
theorem dX6_becomeLike_51 : decode cX6_becomeLike 51 = .ok (.invokestatic 33, 3) := by decide +kernel
theorem dX6_becomeLike_54 : decode cX6_becomeLike 54 = .ok (.aload_n 1, 1) := by decide +kernel
theorem dX6_becomeLike_55 : decode cX6_becomeLike 55 = .ok (.getfield 30, 3) := by decide +kernel
theorem dX6_becomeLike_58 : decode cX6_becomeLike 58 = .ok (.iconst 0, 1) := by decide +kernel
theorem dX6_becomeLike_59 : decode cX6_becomeLike 59 = .ok (.aload_n 0, 1) := by decide +kernel
theorem dX6_becomeLike_60 : decode cX6_becomeLike 60 = .ok (.getfield 30, 3) := by decide +kernel
theorem dX6_becomeLike_63 : decode cX6_becomeLike 63 = .ok (.iconst 0, 1) := by decide +kernel
theorem dX6_becomeLike_64 : decode cX6_becomeLike 64 = .ok (.aload_n 0, 1) := by decide +kernel
theorem dX6_becomeLike_65 : decode cX6_becomeLike 65 = .ok (.getfield 30, 3) := by decide +kernel
theorem dX6_becomeLike_68 : decode cX6_becomeLike 68 = .ok (.arraylength, 1) := by decide +kernel
theorem dX6_becomeLike_69 : decode cX6_becomeLike 69 = .ok (.invokestatic 33, 3) := by decide +kernel
theorem dX6_becomeLike_72 : decode cX6_becomeLike 72 = .ok (.aload_n 0, 1) := by decide +kernel
theorem dX6_becomeLike_73 : decode cX6_becomeLike 73 = .ok (.aload_n 1, 1) := by decide +kernel
theorem dX6_becomeLike_74 : decode cX6_becomeLike 74 = .ok (.getfield 39, 3) := by decide +kernel
theorem dX6_becomeLike_77 : decode cX6_becomeLike 77 = .ok (.putfield 39, 3) := by decide +kernel
theorem dX6_becomeLike_80 : decode cX6_becomeLike 80 = .ok (.return_, 1) := by decide +kernel
theorem dX6_hasAllCows_0 : decode cX6_hasAllCows 0 = .ok (.aload_n 0, 1) := by decide +kernel
theorem dX6_hasAllCows_1 : decode cX6_hasAllCows 1 = .ok (.getfield 39, 3) := by decide +kernel
theorem dX6_hasAllCows_4 : decode cX6_hasAllCows 4 = .ok (.aload_n 0, 1) := by decide +kernel
theorem dX6_hasAllCows_5 : decode cX6_hasAllCows 5 = .ok (.getfield 27, 3) := by decide +kernel
theorem dX6_hasAllCows_8 : decode cX6_hasAllCows 8 = .ok (.arraylength, 1) := by decide +kernel
theorem dX6_hasAllCows_9 : decode cX6_hasAllCows 9 = .ok (.if_icmp .ge 15, 3) := by decide +kernel
theorem dX6_hasAllCows_12 : decode cX6_hasAllCows 12 = .ok (.aload_n 0, 1) := by decide +kernel
theorem dX6_hasAllCows_13 : decode cX6_hasAllCows 13 = .ok (.getfield 39, 3) := by decide +kernel
theorem dX6_hasAllCows_16 : decode cX6_hasAllCows 16 = .ok (.aload_n 0, 1) := by decide +kernel
theorem dX6_hasAllCows_17 : decode cX6_hasAllCows 17 = .ok (.getfield 30, 3) := by decide +kernel
theorem dX6_hasAllCows_20 : decode cX6_hasAllCows 20 = .ok (.arraylength, 1) := by decide +kernel
theorem dX6_hasAllCows_21 : decode cX6_hasAllCows 21 = .ok (.if_icmp .lt 7, 3) := by decide +kernel
theorem dX6_hasAllCows_24 : decode cX6_hasAllCows 24 = .ok (.iconst 1, 1) := by decide +kernel
theorem dX6_hasAllCows_25 : decode cX6_hasAllCows 25 = .ok (.goto 4, 3) := by decide +kernel
theorem dX6_hasAllCows_28 : decode cX6_hasAllCows 28 = .ok (.iconst 0, 1) := by decide +kernel
theorem dX6_hasAllCows_29 : decode cX6_hasAllCows 29 = .ok (.ireturn, 1) := by decide +kernel
theorem dX6_put_0 : decode cX6_put 0 = .ok (.iload_n 1, 1) := by decide +kernel
theorem dX6_put_1 : decode cX6_put 1 = .ok (.bipush 6, 2) := by decide +kernel
theorem dX6_put_3 : decode cX6_put 3 = .ok (.if_icmp .lt 28, 3) := by decide +kernel
theorem dX6_put_6 : decode cX6_put 6 = .ok (.iload_n 1, 1) := by decide +kernel
theorem dX6_put_7 : decode cX6_put 7 = .ok (.bipush 6, 2) := by decide +kernel
theorem dX6_put_9 : decode cX6_put 9 = .ok (.isub, 1) := by decide +kernel
theorem dX6_put_10 : decode cX6_put 10 = .ok (.aload_n 0, 1) := by decide +kernel
theorem dX6_put_11 : decode cX6_put 11 = .ok (.getfield 18, 3) := by decide +kernel
theorem dX6_put_14 : decode cX6_put 14 = .ok (.arraylength, 1) := by decide +kernel
theorem dX6_put_15 : decode cX6_put 15 = .ok (.if_icmp .ge 16, 3) := by decide +kernel
theorem dX6_put_18 : decode cX6_put 18 = .ok (.aload_n 0, 1) := by decide +kernel
theorem dX6_put_19 : decode cX6_put 19 = .ok (.getfield 18, 3) := by decide +kernel
theorem dX6_put_22 : decode cX6_put 22 = .ok (.iload_n 1, 1) := by decide +kernel
theorem dX6_put_23 : decode cX6_put 23 = .ok (.bipush 6, 2) := by decide +kernel
theorem dX6_put_25 : decode cX6_put 25 = .ok (.isub, 1) := by decide +kernel
theorem dX6_put_26 : decode cX6_put 26 = .ok (.iload_n 2, 1) := by decide +kernel
theorem dX6_put_27 : decode cX6_put 27 = .ok (.iastore, 1) := by decide +kernel
theorem dX6_put_28 : decode cX6_put 28 = .ok (.goto 87, 3) := by decide +kernel
theorem dX6_put_31 : decode cX6_put 31 = .ok (.iload_n 1, 1) := by decide +kernel
theorem dX6_put_32 : decode cX6_put 32 = .ok (.iconst 2, 1) := by decide +kernel
theorem dX6_put_33 : decode cX6_put 33 = .ok (.if_icmp .lt 26, 3) := by decide +kernel
theorem dX6_put_36 : decode cX6_put 36 = .ok (.iload_n 1, 1) := by decide +kernel
theorem dX6_put_37 : decode cX6_put 37 = .ok (.iconst 2, 1) := by decide +kernel
theorem dX6_put_38 : decode cX6_put 38 = .ok (.isub, 1) := by decide +kernel
theorem dX6_put_39 : decode cX6_put 39 = .ok (.aload_n 0, 1) := by decide +kernel
theorem dX6_put_40 : decode cX6_put 40 = .ok (.getfield 24, 3) := by decide +kernel
theorem dX6_put_43 : decode cX6_put 43 = .ok (.arraylength, 1) := by decide +kernel
theorem dX6_put_44 : decode cX6_put 44 = .ok (.if_icmp .ge 15, 3) := by decide +kernel
theorem dX6_put_47 : decode cX6_put 47 = .ok (.aload_n 0, 1) := by decide +kernel
theorem dX6_put_48 : decode cX6_put 48 = .ok (.getfield 24, 3) := by decide +kernel
theorem dX6_put_51 : decode cX6_put 51 = .ok (.iload_n 1, 1) := by decide +kernel
theorem dX6_put_52 : decode cX6_put 52 = .ok (.iconst 2, 1) := by decide +kernel
theorem dX6_put_53 : decode cX6_put 53 = .ok (.isub, 1) := by decide +kernel
theorem dX6_put_54 : decode cX6_put 54 = .ok (.iload_n 2, 1) := by decide +kernel
theorem dX6_put_55 : decode cX6_put 55 = .ok (.iastore, 1) := by decide +kernel
theorem dX6_put_56 : decode cX6_put 56 = .ok (.goto 59, 3) := by decide +kernel
theorem dX6_put_59 : decode cX6_put 59 = .ok (.iload_n 1, 1) := by decide +kernel
theorem dX6_put_60 : decode cX6_put 60 = .ok (.iconst 1, 1) := by decide +kernel
theorem dX6_put_61 : decode cX6_put 61 = .ok (.if_icmp .ne 28, 3) := by decide +kernel
theorem dX6_put_64 : decode cX6_put 64 = .ok (.aload_n 0, 1) := by decide +kernel
theorem dX6_put_65 : decode cX6_put 65 = .ok (.getfield 39, 3) := by decide +kernel
theorem dX6_put_68 : decode cX6_put 68 = .ok (.aload_n 0, 1) := by decide +kernel
theorem dX6_put_69 : decode cX6_put 69 = .ok (.getfield 30, 3) := by decide +kernel
theorem dX6_put_72 : decode cX6_put 72 = .ok (.arraylength, 1) := by decide +kernel
theorem dX6_put_73 : decode cX6_put 73 = .ok (.if_icmp .ge 16, 3) := by decide +kernel
theorem dX6_put_76 : decode cX6_put 76 = .ok (.aload_n 0, 1) := by decide +kernel
theorem dX6_put_77 : decode cX6_put 77 = .ok (.getfield 30, 3) := by decide +kernel
theorem dX6_put_80 : decode cX6_put 80 = .ok (.aload_n 0, 1) := by decide +kernel
theorem dX6_put_81 : decode cX6_put 81 = .ok (.getfield 39, 3) := by decide +kernel
theorem dX6_put_84 : decode cX6_put 84 = .ok (.iload_n 2, 1) := by decide +kernel
theorem dX6_put_85 : decode cX6_put 85 = .ok (.iastore, 1) := by decide +kernel
theorem dX6_put_86 : decode cX6_put 86 = .ok (.goto 29, 3) := by decide +kernel
theorem dX6_put_89 : decode cX6_put 89 = .ok (.iload_n 1, 1) := by decide +kernel
theorem dX6_put_90 : decode cX6_put 90 = .ok (.ifCond .ne 25, 3) := by decide +kernel
theorem dX6_put_93 : decode cX6_put 93 = .ok (.aload_n 0, 1) := by decide +kernel
theorem dX6_put_94 : decode cX6_put 94 = .ok (.getfield 39, 3) := by decide +kernel
theorem dX6_put_97 : decode cX6_put 97 = .ok (.aload_n 0, 1) := by decide +kernel
theorem dX6_put_98 : decode cX6_put 98 = .ok (.getfield 27, 3) := by decide +kernel
theorem dX6_put_101 : decode cX6_put 101 = .ok (.arraylength, 1) := by decide +kernel
theorem dX6_put_102 : decode cX6_put 102 = .ok (.if_icmp .ge 13, 3) := by decide +kernel
theorem dX6_put_105 : decode cX6_put 105 = .ok (.aload_n 0, 1) := by decide +kernel
theorem dX6_put_106 : decode cX6_put 106 = .ok (.getfield 27, 3) := by decide +kernel
theorem dX6_put_109 : decode cX6_put 109 = .ok (.aload_n 0, 1) := by decide +kernel
theorem dX6_put_110 : decode cX6_put 110 = .ok (.getfield 39, 3) := by decide +kernel
theorem dX6_put_113 : decode cX6_put 113 = .ok (.iload_n 2, 1) := by decide +kernel
theorem dX6_put_114 : decode cX6_put 114 = .ok (.iastore, 1) := by decide +kernel
theorem dX6_put_115 : decode cX6_put 115 = .ok (.return_, 1) := by decide +kernel
theorem dX6_base_0 : decode cX6_base 0 = .ok (.aload_n 0, 1) := by decide +kernel
theorem dX6_base_1 : decode cX6_base 1 = .ok (.getfield 18, 3) := by decide +kernel
theorem dX6_base_4 : decode cX6_base 4 = .ok (.iconst 1, 1) := by decide +kernel
theorem dX6_base_5 : decode cX6_base 5 = .ok (.iaload, 1) := by decide +kernel
theorem dX6_base_6 : decode cX6_base 6 = .ok (.ireturn, 1) := by decide +kernel
theorem dX6_isGood_0 : decode cX6_isGood 0 = .ok (.iload_n 1, 1) := by decide +kernel
theorem dX6_isGood_1 : decode cX6_isGood 1 = .ok (.aload_n 0, 1) := by decide +kernel
theorem dX6_isGood_2 : decode cX6_isGood 2 = .ok (.getfield 18, 3) := by decide +kernel
theorem dX6_isGood_5 : decode cX6_isGood 5 = .ok (.bipush 7, 2) := by decide +kernel
theorem dX6_isGood_7 : decode cX6_isGood 7 = .ok (.iaload, 1) := by decide +kernel
theorem dX6_isGood_8 : decode cX6_isGood 8 = .ok (.if_icmp .lt 18, 3) := by decide +kernel
theorem dX6_isGood_11 : decode cX6_isGood 11 = .ok (.iload_n 1, 1) := by decide +kernel
theorem dX6_isGood_12 : decode cX6_isGood 12 = .ok (.aload_n 0, 1) := by decide +kernel
theorem dX6_isGood_13 : decode cX6_isGood 13 = .ok (.getfield 18, 3) := by decide +kernel
theorem dX6_isGood_16 : decode cX6_isGood 16 = .ok (.bipush 8, 2) := by decide +kernel
theorem dX6_isGood_18 : decode cX6_isGood 18 = .ok (.iaload, 1) := by decide +kernel
theorem dX6_isGood_19 : decode cX6_isGood 19 = .ok (.if_icmp .gt 7, 3) := by decide +kernel
theorem dX6_isGood_22 : decode cX6_isGood 22 = .ok (.iconst 1, 1) := by decide +kernel
theorem dX6_isGood_23 : decode cX6_isGood 23 = .ok (.goto 4, 3) := by decide +kernel
theorem dX6_isGood_26 : decode cX6_isGood 26 = .ok (.iconst 0, 1) := by decide +kernel
theorem dX6_isGood_27 : decode cX6_isGood 27 = .ok (.ireturn, 1) := by decide +kernel
theorem dX6_hasCow_0 : decode cX6_hasCow 0 = .ok (.iload_n 1, 1) := by decide +kernel
theorem dX6_hasCow_1 : decode cX6_hasCow 1 = .ok (.ifCond .lt 33, 3) := by decide +kernel
theorem dX6_hasCow_4 : decode cX6_hasCow 4 = .ok (.iload_n 1, 1) := by decide +kernel
theorem dX6_hasCow_5 : decode cX6_hasCow 5 = .ok (.aload_n 0, 1) := by decide +kernel
theorem dX6_hasCow_6 : decode cX6_hasCow 6 = .ok (.getfield 39, 3) := by decide +kernel
theorem dX6_hasCow_9 : decode cX6_hasCow 9 = .ok (.if_icmp .ge 25, 3) := by decide +kernel
theorem dX6_hasCow_12 : decode cX6_hasCow 12 = .ok (.iload_n 1, 1) := by decide +kernel
theorem dX6_hasCow_13 : decode cX6_hasCow 13 = .ok (.aload_n 0, 1) := by decide +kernel
theorem dX6_hasCow_14 : decode cX6_hasCow 14 = .ok (.getfield 27, 3) := by decide +kernel
theorem dX6_hasCow_17 : decode cX6_hasCow 17 = .ok (.arraylength, 1) := by decide +kernel
theorem dX6_hasCow_18 : decode cX6_hasCow 18 = .ok (.if_icmp .ge 16, 3) := by decide +kernel
theorem dX6_hasCow_21 : decode cX6_hasCow 21 = .ok (.iload_n 1, 1) := by decide +kernel
theorem dX6_hasCow_22 : decode cX6_hasCow 22 = .ok (.aload_n 0, 1) := by decide +kernel
theorem dX6_hasCow_23 : decode cX6_hasCow 23 = .ok (.getfield 30, 3) := by decide +kernel
theorem dX6_hasCow_26 : decode cX6_hasCow 26 = .ok (.arraylength, 1) := by decide +kernel
theorem dX6_hasCow_27 : decode cX6_hasCow 27 = .ok (.if_icmp .ge 7, 3) := by decide +kernel
theorem dX6_hasCow_30 : decode cX6_hasCow 30 = .ok (.iconst 1, 1) := by decide +kernel
theorem dX6_hasCow_31 : decode cX6_hasCow 31 = .ok (.goto 4, 3) := by decide +kernel
theorem dX6_hasCow_34 : decode cX6_hasCow 34 = .ok (.iconst 0, 1) := by decide +kernel
theorem dX6_hasCow_35 : decode cX6_hasCow 35 = .ok (.ireturn, 1) := by decide +kernel
theorem dX6_allCows_0 : decode cX6_allCows 0 = .ok (.iconst 1, 1) := by decide +kernel
theorem dX6_allCows_1 : decode cX6_allCows 1 = .ok (.aload_n 0, 1) := by decide +kernel
theorem dX6_allCows_2 : decode cX6_allCows 2 = .ok (.getfield 39, 3) := by decide +kernel
theorem dX6_allCows_5 : decode cX6_allCows 5 = .ok (.ishl, 1) := by decide +kernel
theorem dX6_allCows_6 : decode cX6_allCows 6 = .ok (.iconst 1, 1) := by decide +kernel
theorem dX6_allCows_7 : decode cX6_allCows 7 = .ok (.isub, 1) := by decide +kernel
theorem dX6_allCows_8 : decode cX6_allCows 8 = .ok (.ireturn, 1) := by decide +kernel
theorem dX6_hasCows_0 : decode cX6_hasCows 0 = .ok (.iload_n 1, 1) := by decide +kernel
theorem dX6_hasCows_1 : decode cX6_hasCows 1 = .ok (.ifCond .lt 15, 3) := by decide +kernel
theorem dX6_hasCows_4 : decode cX6_hasCows 4 = .ok (.iload_n 1, 1) := by decide +kernel
theorem dX6_hasCows_5 : decode cX6_hasCows 5 = .ok (.aload_n 0, 1) := by decide +kernel
theorem dX6_hasCows_6 : decode cX6_hasCows 6 = .ok (.invokevirtual 43, 3) := by decide +kernel
theorem dX6_hasCows_9 : decode cX6_hasCows 9 = .ok (.if_icmp .gt 7, 3) := by decide +kernel
theorem dX6_hasCows_12 : decode cX6_hasCows 12 = .ok (.iconst 1, 1) := by decide +kernel
theorem dX6_hasCows_13 : decode cX6_hasCows 13 = .ok (.goto 4, 3) := by decide +kernel
theorem dX6_hasCows_16 : decode cX6_hasCows 16 = .ok (.iconst 0, 1) := by decide +kernel
theorem dX6_hasCows_17 : decode cX6_hasCows 17 = .ok (.ireturn, 1) := by decide +kernel
theorem dX6_litresOf_0 : decode cX6_litresOf 0 = .ok (.iconst 0, 1) := by decide +kernel
theorem dX6_litresOf_1 : decode cX6_litresOf 1 = .ok (.istore_n 2, 1) := by decide +kernel
theorem dX6_litresOf_2 : decode cX6_litresOf 2 = .ok (.iconst 0, 1) := by decide +kernel
theorem dX6_litresOf_3 : decode cX6_litresOf 3 = .ok (.istore_n 3, 1) := by decide +kernel
theorem dX6_litresOf_4 : decode cX6_litresOf 4 = .ok (.iload_n 3, 1) := by decide +kernel
theorem dX6_litresOf_5 : decode cX6_litresOf 5 = .ok (.aload_n 0, 1) := by decide +kernel
theorem dX6_litresOf_6 : decode cX6_litresOf 6 = .ok (.getfield 27, 3) := by decide +kernel
theorem dX6_litresOf_9 : decode cX6_litresOf 9 = .ok (.arraylength, 1) := by decide +kernel
theorem dX6_litresOf_10 : decode cX6_litresOf 10 = .ok (.if_icmp .ge 26, 3) := by decide +kernel
theorem dX6_litresOf_13 : decode cX6_litresOf 13 = .ok (.iload_n 1, 1) := by decide +kernel
theorem dX6_litresOf_14 : decode cX6_litresOf 14 = .ok (.iload_n 3, 1) := by decide +kernel
theorem dX6_litresOf_15 : decode cX6_litresOf 15 = .ok (.ishr, 1) := by decide +kernel
theorem dX6_litresOf_16 : decode cX6_litresOf 16 = .ok (.iconst 1, 1) := by decide +kernel
theorem dX6_litresOf_17 : decode cX6_litresOf 17 = .ok (.iand, 1) := by decide +kernel
theorem dX6_litresOf_18 : decode cX6_litresOf 18 = .ok (.ifCond .eq 12, 3) := by decide +kernel
theorem dX6_litresOf_21 : decode cX6_litresOf 21 = .ok (.iload_n 2, 1) := by decide +kernel
theorem dX6_litresOf_22 : decode cX6_litresOf 22 = .ok (.aload_n 0, 1) := by decide +kernel
theorem dX6_litresOf_23 : decode cX6_litresOf 23 = .ok (.getfield 27, 3) := by decide +kernel
theorem dX6_litresOf_26 : decode cX6_litresOf 26 = .ok (.iload_n 3, 1) := by decide +kernel
theorem dX6_litresOf_27 : decode cX6_litresOf 27 = .ok (.iaload, 1) := by decide +kernel
theorem dX6_litresOf_28 : decode cX6_litresOf 28 = .ok (.iadd, 1) := by decide +kernel
theorem dX6_litresOf_29 : decode cX6_litresOf 29 = .ok (.istore_n 2, 1) := by decide +kernel
theorem dX6_litresOf_30 : decode cX6_litresOf 30 = .ok (.iinc 3 1, 3) := by decide +kernel
theorem dX6_litresOf_33 : decode cX6_litresOf 33 = .ok (.goto (-29), 3) := by decide +kernel
theorem dX6_litresOf_36 : decode cX6_litresOf 36 = .ok (.iload_n 2, 1) := by decide +kernel
theorem dX6_litresOf_37 : decode cX6_litresOf 37 = .ok (.ireturn, 1) := by decide +kernel
theorem dX6_hardOf_0 : decode cX6_hardOf 0 = .ok (.iconst 0, 1) := by decide +kernel
theorem dX6_hardOf_1 : decode cX6_hardOf 1 = .ok (.istore_n 2, 1) := by decide +kernel
theorem dX6_hardOf_2 : decode cX6_hardOf 2 = .ok (.iconst 0, 1) := by decide +kernel
theorem dX6_hardOf_3 : decode cX6_hardOf 3 = .ok (.istore_n 3, 1) := by decide +kernel
theorem dX6_hardOf_4 : decode cX6_hardOf 4 = .ok (.iload_n 3, 1) := by decide +kernel
theorem dX6_hardOf_5 : decode cX6_hardOf 5 = .ok (.aload_n 0, 1) := by decide +kernel
theorem dX6_hardOf_6 : decode cX6_hardOf 6 = .ok (.getfield 27, 3) := by decide +kernel
theorem dX6_hardOf_9 : decode cX6_hardOf 9 = .ok (.arraylength, 1) := by decide +kernel
theorem dX6_hardOf_10 : decode cX6_hardOf 10 = .ok (.if_icmp .ge 42, 3) := by decide +kernel
theorem dX6_hardOf_13 : decode cX6_hardOf 13 = .ok (.iload_n 3, 1) := by decide +kernel
theorem dX6_hardOf_14 : decode cX6_hardOf 14 = .ok (.aload_n 0, 1) := by decide +kernel
theorem dX6_hardOf_15 : decode cX6_hardOf 15 = .ok (.getfield 30, 3) := by decide +kernel
theorem dX6_hardOf_18 : decode cX6_hardOf 18 = .ok (.arraylength, 1) := by decide +kernel
theorem dX6_hardOf_19 : decode cX6_hardOf 19 = .ok (.if_icmp .ge 33, 3) := by decide +kernel
theorem dX6_hardOf_22 : decode cX6_hardOf 22 = .ok (.iload_n 1, 1) := by decide +kernel
theorem dX6_hardOf_23 : decode cX6_hardOf 23 = .ok (.iload_n 3, 1) := by decide +kernel
theorem dX6_hardOf_24 : decode cX6_hardOf 24 = .ok (.ishr, 1) := by decide +kernel
theorem dX6_hardOf_25 : decode cX6_hardOf 25 = .ok (.iconst 1, 1) := by decide +kernel
theorem dX6_hardOf_26 : decode cX6_hardOf 26 = .ok (.iand, 1) := by decide +kernel
theorem dX6_hardOf_27 : decode cX6_hardOf 27 = .ok (.ifCond .eq 19, 3) := by decide +kernel
theorem dX6_hardOf_30 : decode cX6_hardOf 30 = .ok (.iload_n 2, 1) := by decide +kernel
theorem dX6_hardOf_31 : decode cX6_hardOf 31 = .ok (.aload_n 0, 1) := by decide +kernel
theorem dX6_hardOf_32 : decode cX6_hardOf 32 = .ok (.getfield 27, 3) := by decide +kernel
theorem dX6_hardOf_35 : decode cX6_hardOf 35 = .ok (.iload_n 3, 1) := by decide +kernel
theorem dX6_hardOf_36 : decode cX6_hardOf 36 = .ok (.iaload, 1) := by decide +kernel
theorem dX6_hardOf_37 : decode cX6_hardOf 37 = .ok (.aload_n 0, 1) := by decide +kernel
theorem dX6_hardOf_38 : decode cX6_hardOf 38 = .ok (.getfield 30, 3) := by decide +kernel
theorem dX6_hardOf_41 : decode cX6_hardOf 41 = .ok (.iload_n 3, 1) := by decide +kernel
theorem dX6_hardOf_42 : decode cX6_hardOf 42 = .ok (.iaload, 1) := by decide +kernel
theorem dX6_hardOf_43 : decode cX6_hardOf 43 = .ok (.imul, 1) := by decide +kernel
theorem dX6_hardOf_44 : decode cX6_hardOf 44 = .ok (.iadd, 1) := by decide +kernel
theorem dX6_hardOf_45 : decode cX6_hardOf 45 = .ok (.istore_n 2, 1) := by decide +kernel
theorem dX6_hardOf_46 : decode cX6_hardOf 46 = .ok (.iinc 3 1, 3) := by decide +kernel
theorem dX6_hardOf_49 : decode cX6_hardOf 49 = .ok (.goto (-45), 3) := by decide +kernel
theorem dX6_hardOf_52 : decode cX6_hardOf 52 = .ok (.aload_n 0, 1) := by decide +kernel
theorem dX6_hardOf_53 : decode cX6_hardOf 53 = .ok (.iload_n 1, 1) := by decide +kernel
theorem dX6_hardOf_54 : decode cX6_hardOf 54 = .ok (.invokevirtual 47, 3) := by decide +kernel
theorem dX6_hardOf_57 : decode cX6_hardOf 57 = .ok (.istore_n 3, 1) := by decide +kernel
theorem dX6_hardOf_58 : decode cX6_hardOf 58 = .ok (.iload_n 3, 1) := by decide +kernel
theorem dX6_hardOf_59 : decode cX6_hardOf 59 = .ok (.ifCond .le 9, 3) := by decide +kernel
theorem dX6_hardOf_62 : decode cX6_hardOf 62 = .ok (.iload_n 2, 1) := by decide +kernel
theorem dX6_hardOf_63 : decode cX6_hardOf 63 = .ok (.iload_n 3, 1) := by decide +kernel
theorem dX6_hardOf_64 : decode cX6_hardOf 64 = .ok (.idiv, 1) := by decide +kernel
theorem dX6_hardOf_65 : decode cX6_hardOf 65 = .ok (.goto 4, 3) := by decide +kernel
theorem dX6_hardOf_68 : decode cX6_hardOf 68 = .ok (.iconst 0, 1) := by decide +kernel
theorem dX6_hardOf_69 : decode cX6_hardOf 69 = .ok (.ireturn, 1) := by decide +kernel
theorem dJ6_bitCount_0f7a4_0 : decode cJ6_bitCount_0f7a4 0 = .ok (.iload_n 0, 1) := by decide +kernel
theorem dJ6_bitCount_0f7a4_1 : decode cJ6_bitCount_0f7a4 1 = .ok (.iload_n 0, 1) := by decide +kernel
theorem dJ6_bitCount_0f7a4_2 : decode cJ6_bitCount_0f7a4 2 = .ok (.iconst 1, 1) := by decide +kernel
theorem dJ6_bitCount_0f7a4_3 : decode cJ6_bitCount_0f7a4 3 = .ok (.iushr, 1) := by decide +kernel
theorem dJ6_bitCount_0f7a4_4 : decode cJ6_bitCount_0f7a4 4 = .ok (.ldc_w 265, 3) := by decide +kernel
theorem dJ6_bitCount_0f7a4_7 : decode cJ6_bitCount_0f7a4 7 = .ok (.iand, 1) := by decide +kernel
theorem dJ6_bitCount_0f7a4_8 : decode cJ6_bitCount_0f7a4 8 = .ok (.isub, 1) := by decide +kernel
theorem dJ6_bitCount_0f7a4_9 : decode cJ6_bitCount_0f7a4 9 = .ok (.istore_n 0, 1) := by decide +kernel
theorem dJ6_bitCount_0f7a4_10 : decode cJ6_bitCount_0f7a4 10 = .ok (.iload_n 0, 1) := by decide +kernel
theorem dJ6_bitCount_0f7a4_11 : decode cJ6_bitCount_0f7a4 11 = .ok (.ldc_w 266, 3) := by decide +kernel
theorem dJ6_bitCount_0f7a4_14 : decode cJ6_bitCount_0f7a4 14 = .ok (.iand, 1) := by decide +kernel
theorem dJ6_bitCount_0f7a4_15 : decode cJ6_bitCount_0f7a4 15 = .ok (.iload_n 0, 1) := by decide +kernel
theorem dJ6_bitCount_0f7a4_16 : decode cJ6_bitCount_0f7a4 16 = .ok (.iconst 2, 1) := by decide +kernel
theorem dJ6_bitCount_0f7a4_17 : decode cJ6_bitCount_0f7a4 17 = .ok (.iushr, 1) := by decide +kernel
theorem dJ6_bitCount_0f7a4_18 : decode cJ6_bitCount_0f7a4 18 = .ok (.ldc_w 266, 3) := by decide +kernel
theorem dJ6_bitCount_0f7a4_21 : decode cJ6_bitCount_0f7a4 21 = .ok (.iand, 1) := by decide +kernel
theorem dJ6_bitCount_0f7a4_22 : decode cJ6_bitCount_0f7a4 22 = .ok (.iadd, 1) := by decide +kernel
theorem dJ6_bitCount_0f7a4_23 : decode cJ6_bitCount_0f7a4 23 = .ok (.istore_n 0, 1) := by decide +kernel
theorem dJ6_bitCount_0f7a4_24 : decode cJ6_bitCount_0f7a4 24 = .ok (.iload_n 0, 1) := by decide +kernel
theorem dJ6_bitCount_0f7a4_25 : decode cJ6_bitCount_0f7a4 25 = .ok (.iload_n 0, 1) := by decide +kernel
theorem dJ6_bitCount_0f7a4_26 : decode cJ6_bitCount_0f7a4 26 = .ok (.iconst 4, 1) := by decide +kernel
theorem dJ6_bitCount_0f7a4_27 : decode cJ6_bitCount_0f7a4 27 = .ok (.iushr, 1) := by decide +kernel
theorem dJ6_bitCount_0f7a4_28 : decode cJ6_bitCount_0f7a4 28 = .ok (.iadd, 1) := by decide +kernel
theorem dJ6_bitCount_0f7a4_29 : decode cJ6_bitCount_0f7a4 29 = .ok (.ldc_w 267, 3) := by decide +kernel
theorem dJ6_bitCount_0f7a4_32 : decode cJ6_bitCount_0f7a4 32 = .ok (.iand, 1) := by decide +kernel
theorem dJ6_bitCount_0f7a4_33 : decode cJ6_bitCount_0f7a4 33 = .ok (.istore_n 0, 1) := by decide +kernel
theorem dJ6_bitCount_0f7a4_34 : decode cJ6_bitCount_0f7a4 34 = .ok (.iload_n 0, 1) := by decide +kernel
theorem dJ6_bitCount_0f7a4_35 : decode cJ6_bitCount_0f7a4 35 = .ok (.iload_n 0, 1) := by decide +kernel
theorem dJ6_bitCount_0f7a4_36 : decode cJ6_bitCount_0f7a4 36 = .ok (.bipush 8, 2) := by decide +kernel
theorem dJ6_bitCount_0f7a4_38 : decode cJ6_bitCount_0f7a4 38 = .ok (.iushr, 1) := by decide +kernel
theorem dJ6_bitCount_0f7a4_39 : decode cJ6_bitCount_0f7a4 39 = .ok (.iadd, 1) := by decide +kernel
theorem dJ6_bitCount_0f7a4_40 : decode cJ6_bitCount_0f7a4 40 = .ok (.istore_n 0, 1) := by decide +kernel
theorem dJ6_bitCount_0f7a4_41 : decode cJ6_bitCount_0f7a4 41 = .ok (.iload_n 0, 1) := by decide +kernel
theorem dJ6_bitCount_0f7a4_42 : decode cJ6_bitCount_0f7a4 42 = .ok (.iload_n 0, 1) := by decide +kernel
theorem dJ6_bitCount_0f7a4_43 : decode cJ6_bitCount_0f7a4 43 = .ok (.bipush 16, 2) := by decide +kernel
theorem dJ6_bitCount_0f7a4_45 : decode cJ6_bitCount_0f7a4 45 = .ok (.iushr, 1) := by decide +kernel
theorem dJ6_bitCount_0f7a4_46 : decode cJ6_bitCount_0f7a4 46 = .ok (.iadd, 1) := by decide +kernel
theorem dJ6_bitCount_0f7a4_47 : decode cJ6_bitCount_0f7a4 47 = .ok (.istore_n 0, 1) := by decide +kernel
theorem dJ6_bitCount_0f7a4_48 : decode cJ6_bitCount_0f7a4 48 = .ok (.iload_n 0, 1) := by decide +kernel
theorem dJ6_bitCount_0f7a4_49 : decode cJ6_bitCount_0f7a4 49 = .ok (.bipush 63, 2) := by decide +kernel
theorem dJ6_bitCount_0f7a4_51 : decode cJ6_bitCount_0f7a4 51 = .ok (.iand, 1) := by decide +kernel
theorem dJ6_bitCount_0f7a4_52 : decode cJ6_bitCount_0f7a4 52 = .ok (.ireturn, 1) := by decide +kernel
theorem dJ9_floorDiv_7cf53_0 : decode cJ9_floorDiv_7cf53 0 = .ok (.iload_n 0, 1) := by decide +kernel
theorem dJ9_floorDiv_7cf53_1 : decode cJ9_floorDiv_7cf53 1 = .ok (.iload_n 1, 1) := by decide +kernel
theorem dJ9_floorDiv_7cf53_2 : decode cJ9_floorDiv_7cf53 2 = .ok (.idiv, 1) := by decide +kernel
theorem dJ9_floorDiv_7cf53_3 : decode cJ9_floorDiv_7cf53 3 = .ok (.istore_n 2, 1) := by decide +kernel
theorem dJ9_floorDiv_7cf53_4 : decode cJ9_floorDiv_7cf53 4 = .ok (.iload_n 0, 1) := by decide +kernel
theorem dJ9_floorDiv_7cf53_5 : decode cJ9_floorDiv_7cf53 5 = .ok (.iload_n 1, 1) := by decide +kernel
theorem dJ9_floorDiv_7cf53_6 : decode cJ9_floorDiv_7cf53 6 = .ok (.ixor, 1) := by decide +kernel
theorem dJ9_floorDiv_7cf53_7 : decode cJ9_floorDiv_7cf53 7 = .ok (.ifCond .ge 14, 3) := by decide +kernel
theorem dJ9_floorDiv_7cf53_10 : decode cJ9_floorDiv_7cf53 10 = .ok (.iload_n 2, 1) := by decide +kernel
theorem dJ9_floorDiv_7cf53_11 : decode cJ9_floorDiv_7cf53 11 = .ok (.iload_n 1, 1) := by decide +kernel
theorem dJ9_floorDiv_7cf53_12 : decode cJ9_floorDiv_7cf53 12 = .ok (.imul, 1) := by decide +kernel
theorem dJ9_floorDiv_7cf53_13 : decode cJ9_floorDiv_7cf53 13 = .ok (.iload_n 0, 1) := by decide +kernel
theorem dJ9_floorDiv_7cf53_14 : decode cJ9_floorDiv_7cf53 14 = .ok (.if_icmp .eq 7, 3) := by decide +kernel
theorem dJ9_floorDiv_7cf53_17 : decode cJ9_floorDiv_7cf53 17 = .ok (.iload_n 2, 1) := by decide +kernel
theorem dJ9_floorDiv_7cf53_18 : decode cJ9_floorDiv_7cf53 18 = .ok (.iconst 1, 1) := by decide +kernel
theorem dJ9_floorDiv_7cf53_19 : decode cJ9_floorDiv_7cf53 19 = .ok (.isub, 1) := by decide +kernel
theorem dJ9_floorDiv_7cf53_20 : decode cJ9_floorDiv_7cf53 20 = .ok (.ireturn, 1) := by decide +kernel
theorem dJ9_floorDiv_7cf53_21 : decode cJ9_floorDiv_7cf53 21 = .ok (.iload_n 2, 1) := by decide +kernel
theorem dJ9_floorDiv_7cf53_22 : decode cJ9_floorDiv_7cf53 22 = .ok (.ireturn, 1) := by decide +kernel
theorem dJ9_max_7cf53_0 : decode cJ9_max_7cf53 0 = .ok (.iload_n 0, 1) := by decide +kernel
theorem dJ9_max_7cf53_1 : decode cJ9_max_7cf53 1 = .ok (.iload_n 1, 1) := by decide +kernel
theorem dJ9_max_7cf53_2 : decode cJ9_max_7cf53 2 = .ok (.if_icmp .lt 7, 3) := by decide +kernel
theorem dJ9_max_7cf53_5 : decode cJ9_max_7cf53 5 = .ok (.iload_n 0, 1) := by decide +kernel
theorem dJ9_max_7cf53_6 : decode cJ9_max_7cf53 6 = .ok (.goto 4, 3) := by decide +kernel
theorem dJ9_max_7cf53_9 : decode cJ9_max_7cf53 9 = .ok (.iload_n 1, 1) := by decide +kernel
theorem dJ9_max_7cf53_10 : decode cJ9_max_7cf53 10 = .ok (.ireturn, 1) := by decide +kernel
theorem dJ9_min_7cf53_0 : decode cJ9_min_7cf53 0 = .ok (.iload_n 0, 1) := by decide +kernel
theorem dJ9_min_7cf53_1 : decode cJ9_min_7cf53 1 = .ok (.iload_n 1, 1) := by decide +kernel
theorem dJ9_min_7cf53_2 : decode cJ9_min_7cf53 2 = .ok (.if_icmp .gt 7, 3) := by decide +kernel
theorem dJ9_min_7cf53_5 : decode cJ9_min_7cf53 5 = .ok (.iload_n 0, 1) := by decide +kernel
theorem dJ9_min_7cf53_6 : decode cJ9_min_7cf53 6 = .ok (.goto 4, 3) := by decide +kernel
theorem dJ9_min_7cf53_9 : decode cJ9_min_7cf53 9 = .ok (.iload_n 1, 1) := by decide +kernel
theorem dJ9_min_7cf53_10 : decode cJ9_min_7cf53 10 = .ok (.ireturn, 1) := by decide +kernel
theorem dJ0_length_8abf5_0 : decode cJ0_length_8abf5 0 = .ok (.aload_n 0, 1) := by decide +kernel
theorem dJ0_length_8abf5_1 : decode cJ0_length_8abf5 1 = .ok (.getfield 9, 3) := by decide +kernel
theorem dJ0_length_8abf5_4 : decode cJ0_length_8abf5 4 = .ok (.arraylength, 1) := by decide +kernel
theorem dJ0_length_8abf5_5 : decode cJ0_length_8abf5 5 = .ok (.aload_n 0, 1) := by decide +kernel
theorem dJ0_length_8abf5_6 : decode cJ0_length_8abf5 6 = .ok (.invokevirtual 335, 3) := by decide +kernel
theorem dJ0_length_8abf5_9 : decode cJ0_length_8abf5 9 = .ok (.ishr, 1) := by decide +kernel
theorem dJ0_length_8abf5_10 : decode cJ0_length_8abf5 10 = .ok (.ireturn, 1) := by decide +kernel
theorem dJ0_charAt_5068e_0 : decode cJ0_charAt_5068e 0 = .ok (.aload_n 0, 1) := by decide +kernel
theorem dJ0_charAt_5068e_1 : decode cJ0_charAt_5068e 1 = .ok (.invokevirtual 492, 3) := by decide +kernel
theorem dJ0_charAt_5068e_4 : decode cJ0_charAt_5068e 4 = .ok (.ifCond .eq 12, 3) := by decide +kernel
theorem dJ0_charAt_5068e_7 : decode cJ0_charAt_5068e 7 = .ok (.aload_n 0, 1) := by decide +kernel
theorem dJ0_charAt_5068e_8 : decode cJ0_charAt_5068e 8 = .ok (.getfield 9, 3) := by decide +kernel
theorem dJ0_charAt_5068e_11 : decode cJ0_charAt_5068e 11 = .ok (.iload_n 1, 1) := by decide +kernel
theorem dJ0_charAt_5068e_12 : decode cJ0_charAt_5068e 12 = .ok (.invokestatic 495, 3) := by decide +kernel
theorem dJ0_charAt_5068e_15 : decode cJ0_charAt_5068e 15 = .ok (.ireturn, 1) := by decide +kernel
theorem dJ0_charAt_5068e_16 : decode cJ0_charAt_5068e 16 = .ok (.aload_n 0, 1) := by decide +kernel
theorem dJ0_charAt_5068e_17 : decode cJ0_charAt_5068e 17 = .ok (.getfield 9, 3) := by decide +kernel
theorem dJ0_charAt_5068e_20 : decode cJ0_charAt_5068e 20 = .ok (.iload_n 1, 1) := by decide +kernel
theorem dJ0_charAt_5068e_21 : decode cJ0_charAt_5068e 21 = .ok (.invokestatic 498, 3) := by decide +kernel
theorem dJ0_charAt_5068e_24 : decode cJ0_charAt_5068e 24 = .ok (.ireturn, 1) := by decide +kernel
theorem dJ0_coder_7d493_0 : decode cJ0_coder_7d493 0 = .ok (.getstatic 38, 3) := by decide +kernel
theorem dJ0_coder_7d493_3 : decode cJ0_coder_7d493 3 = .ok (.ifCond .eq 10, 3) := by decide +kernel
theorem dJ0_coder_7d493_6 : decode cJ0_coder_7d493 6 = .ok (.aload_n 0, 1) := by decide +kernel
theorem dJ0_coder_7d493_7 : decode cJ0_coder_7d493 7 = .ok (.getfield 15, 3) := by decide +kernel
theorem dJ0_coder_7d493_10 : decode cJ0_coder_7d493 10 = .ok (.goto 4, 3) := by decide +kernel
theorem dJ0_coder_7d493_13 : decode cJ0_coder_7d493 13 = .ok (.iconst 1, 1) := by decide +kernel
theorem dJ0_coder_7d493_14 : decode cJ0_coder_7d493 14 = .ok (.ireturn, 1) := by decide +kernel
theorem dJ0_isLatin1_aae02_0 : decode cJ0_isLatin1_aae02 0 = .ok (.getstatic 38, 3) := by decide +kernel
theorem dJ0_isLatin1_aae02_3 : decode cJ0_isLatin1_aae02 3 = .ok (.ifCond .eq 14, 3) := by decide +kernel
theorem dJ0_isLatin1_aae02_6 : decode cJ0_isLatin1_aae02 6 = .ok (.aload_n 0, 1) := by decide +kernel
theorem dJ0_isLatin1_aae02_7 : decode cJ0_isLatin1_aae02 7 = .ok (.getfield 15, 3) := by decide +kernel
theorem dJ0_isLatin1_aae02_10 : decode cJ0_isLatin1_aae02 10 = .ok (.ifCond .ne 7, 3) := by decide +kernel
theorem dJ0_isLatin1_aae02_13 : decode cJ0_isLatin1_aae02 13 = .ok (.iconst 1, 1) := by decide +kernel
theorem dJ0_isLatin1_aae02_14 : decode cJ0_isLatin1_aae02 14 = .ok (.goto 4, 3) := by decide +kernel
theorem dJ0_isLatin1_aae02_17 : decode cJ0_isLatin1_aae02 17 = .ok (.iconst 0, 1) := by decide +kernel
theorem dJ0_isLatin1_aae02_18 : decode cJ0_isLatin1_aae02 18 = .ok (.ireturn, 1) := by decide +kernel
theorem dJ0_checkIndex_df160_0 : decode cJ0_checkIndex_df160 0 = .ok (.iload_n 0, 1) := by decide +kernel
theorem dJ0_checkIndex_df160_1 : decode cJ0_checkIndex_df160 1 = .ok (.iload_n 1, 1) := by decide +kernel
theorem dJ0_checkIndex_df160_2 : decode cJ0_checkIndex_df160 2 = .ok (.getstatic 1053, 3) := by decide +kernel
theorem dJ0_checkIndex_df160_5 : decode cJ0_checkIndex_df160 5 = .ok (.invokestatic 1059, 3) := by decide +kernel
theorem dJ0_checkIndex_df160_8 : decode cJ0_checkIndex_df160 8 = .ok (.pop, 1) := by decide +kernel
theorem dJ0_checkIndex_df160_9 : decode cJ0_checkIndex_df160 9 = .ok (.return_, 1) := by decide +kernel
theorem dJ1_charAt_3b067_0 : decode cJ1_charAt_3b067 0 = .ok (.iload_n 1, 1) := by decide +kernel
theorem dJ1_charAt_3b067_1 : decode cJ1_charAt_3b067 1 = .ok (.aload_n 0, 1) := by decide +kernel
theorem dJ1_charAt_3b067_2 : decode cJ1_charAt_3b067 2 = .ok (.arraylength, 1) := by decide +kernel
theorem dJ1_charAt_3b067_3 : decode cJ1_charAt_3b067 3 = .ok (.invokestatic 9, 3) := by decide +kernel
theorem dJ1_charAt_3b067_6 : decode cJ1_charAt_3b067 6 = .ok (.aload_n 0, 1) := by decide +kernel
theorem dJ1_charAt_3b067_7 : decode cJ1_charAt_3b067 7 = .ok (.iload_n 1, 1) := by decide +kernel
theorem dJ1_charAt_3b067_8 : decode cJ1_charAt_3b067 8 = .ok (.baload, 1) := by decide +kernel
theorem dJ1_charAt_3b067_9 : decode cJ1_charAt_3b067 9 = .ok (.sipush 255, 3) := by decide +kernel
theorem dJ1_charAt_3b067_12 : decode cJ1_charAt_3b067 12 = .ok (.iand, 1) := by decide +kernel
theorem dJ1_charAt_3b067_13 : decode cJ1_charAt_3b067 13 = .ok (.i2c, 1) := by decide +kernel
theorem dJ1_charAt_3b067_14 : decode cJ1_charAt_3b067 14 = .ok (.ireturn, 1) := by decide +kernel
theorem dJ2_getChar_3b067_0 : decode cJ2_getChar_3b067 0 = .ok (.getstatic 44, 3) := by decide +kernel
theorem dJ2_getChar_3b067_3 : decode cJ2_getChar_3b067 3 = .ok (.ifCond .ne 25, 3) := by decide +kernel
theorem dJ2_getChar_3b067_6 : decode cJ2_getChar_3b067 6 = .ok (.iload_n 1, 1) := by decide +kernel
theorem dJ2_getChar_3b067_7 : decode cJ2_getChar_3b067 7 = .ok (.ifCond .lt 11, 3) := by decide +kernel
theorem dJ2_getChar_3b067_10 : decode cJ2_getChar_3b067 10 = .ok (.iload_n 1, 1) := by decide +kernel
theorem dJ2_getChar_3b067_11 : decode cJ2_getChar_3b067 11 = .ok (.aload_n 0, 1) := by decide +kernel
theorem dJ2_getChar_3b067_12 : decode cJ2_getChar_3b067 12 = .ok (.invokestatic 48, 3) := by decide +kernel
theorem dJ2_getChar_3b067_15 : decode cJ2_getChar_3b067 15 = .ok (.if_icmp .lt 13, 3) := by decide +kernel
theorem dJ2_getChar_3b067_18 : decode cJ2_getChar_3b067 18 = .ok (.new 52, 3) := by decide +kernel
theorem dJ2_getChar_3b067_21 : decode cJ2_getChar_3b067 21 = .ok (.dup, 1) := by decide +kernel
theorem dJ2_getChar_3b067_22 : decode cJ2_getChar_3b067 22 = .ok (.ldc 54, 2) := by decide +kernel
theorem dJ2_getChar_3b067_24 : decode cJ2_getChar_3b067 24 = .ok (.invokespecial 56, 3) := by decide +kernel
theorem dJ2_getChar_3b067_27 : decode cJ2_getChar_3b067 27 = .ok (.athrow, 1) := by decide +kernel
theorem dJ2_getChar_3b067_28 : decode cJ2_getChar_3b067 28 = .ok (.iload_n 1, 1) := by decide +kernel
theorem dJ2_getChar_3b067_29 : decode cJ2_getChar_3b067 29 = .ok (.iconst 1, 1) := by decide +kernel
theorem dJ2_getChar_3b067_30 : decode cJ2_getChar_3b067 30 = .ok (.ishl, 1) := by decide +kernel
theorem dJ2_getChar_3b067_31 : decode cJ2_getChar_3b067 31 = .ok (.istore_n 1, 1) := by decide +kernel
theorem dJ2_getChar_3b067_32 : decode cJ2_getChar_3b067 32 = .ok (.aload_n 0, 1) := by decide +kernel
theorem dJ2_getChar_3b067_33 : decode cJ2_getChar_3b067 33 = .ok (.iload_n 1, 1) := by decide +kernel
theorem dJ2_getChar_3b067_34 : decode cJ2_getChar_3b067 34 = .ok (.iinc 1 1, 3) := by decide +kernel
theorem dJ2_getChar_3b067_37 : decode cJ2_getChar_3b067 37 = .ok (.baload, 1) := by decide +kernel
theorem dJ2_getChar_3b067_38 : decode cJ2_getChar_3b067 38 = .ok (.sipush 255, 3) := by decide +kernel
theorem dJ2_getChar_3b067_41 : decode cJ2_getChar_3b067 41 = .ok (.iand, 1) := by decide +kernel
theorem dJ2_getChar_3b067_42 : decode cJ2_getChar_3b067 42 = .ok (.getstatic 59, 3) := by decide +kernel
theorem dJ2_getChar_3b067_45 : decode cJ2_getChar_3b067 45 = .ok (.ishl, 1) := by decide +kernel
theorem dJ2_getChar_3b067_46 : decode cJ2_getChar_3b067 46 = .ok (.aload_n 0, 1) := by decide +kernel
theorem dJ2_getChar_3b067_47 : decode cJ2_getChar_3b067 47 = .ok (.iload_n 1, 1) := by decide +kernel
theorem dJ2_getChar_3b067_48 : decode cJ2_getChar_3b067 48 = .ok (.baload, 1) := by decide +kernel
theorem dJ2_getChar_3b067_49 : decode cJ2_getChar_3b067 49 = .ok (.sipush 255, 3) := by decide +kernel
theorem dJ2_getChar_3b067_52 : decode cJ2_getChar_3b067 52 = .ok (.iand, 1) := by decide +kernel
theorem dJ2_getChar_3b067_53 : decode cJ2_getChar_3b067 53 = .ok (.getstatic 63, 3) := by decide +kernel
theorem dJ2_getChar_3b067_56 : decode cJ2_getChar_3b067 56 = .ok (.ishl, 1) := by decide +kernel
theorem dJ2_getChar_3b067_57 : decode cJ2_getChar_3b067 57 = .ok (.ior, 1) := by decide +kernel
theorem dJ2_getChar_3b067_58 : decode cJ2_getChar_3b067 58 = .ok (.i2c, 1) := by decide +kernel
theorem dJ2_getChar_3b067_59 : decode cJ2_getChar_3b067 59 = .ok (.ireturn, 1) := by decide +kernel
theorem dJ2_length_9d52b_0 : decode cJ2_length_9d52b 0 = .ok (.aload_n 0, 1) := by decide +kernel
theorem dJ2_length_9d52b_1 : decode cJ2_length_9d52b 1 = .ok (.arraylength, 1) := by decide +kernel
theorem dJ2_length_9d52b_2 : decode cJ2_length_9d52b 2 = .ok (.iconst 1, 1) := by decide +kernel
theorem dJ2_length_9d52b_3 : decode cJ2_length_9d52b 3 = .ok (.ishr, 1) := by decide +kernel
theorem dJ2_length_9d52b_4 : decode cJ2_length_9d52b 4 = .ok (.ireturn, 1) := by decide +kernel
theorem dJ2_charAt_3b067_0 : decode cJ2_charAt_3b067 0 = .ok (.iload_n 1, 1) := by decide +kernel
theorem dJ2_charAt_3b067_1 : decode cJ2_charAt_3b067 1 = .ok (.aload_n 0, 1) := by decide +kernel
theorem dJ2_charAt_3b067_2 : decode cJ2_charAt_3b067 2 = .ok (.invokestatic 67, 3) := by decide +kernel
theorem dJ2_charAt_3b067_5 : decode cJ2_charAt_3b067 5 = .ok (.aload_n 0, 1) := by decide +kernel
theorem dJ2_charAt_3b067_6 : decode cJ2_charAt_3b067 6 = .ok (.iload_n 1, 1) := by decide +kernel
theorem dJ2_charAt_3b067_7 : decode cJ2_charAt_3b067 7 = .ok (.invokestatic 71, 3) := by decide +kernel
theorem dJ2_charAt_3b067_10 : decode cJ2_charAt_3b067 10 = .ok (.ireturn, 1) := by decide +kernel
theorem dJ2_checkIndex_2214a_0 : decode cJ2_checkIndex_2214a 0 = .ok (.iload_n 0, 1) := by decide +kernel
theorem dJ2_checkIndex_2214a_1 : decode cJ2_checkIndex_2214a 1 = .ok (.aload_n 1, 1) := by decide +kernel
theorem dJ2_checkIndex_2214a_2 : decode cJ2_checkIndex_2214a 2 = .ok (.invokestatic 48, 3) := by decide +kernel
theorem dJ2_checkIndex_2214a_5 : decode cJ2_checkIndex_2214a 5 = .ok (.invokestatic 414, 3) := by decide +kernel
theorem dJ2_checkIndex_2214a_8 : decode cJ2_checkIndex_2214a 8 = .ok (.return_, 1) := by decide +kernel
theorem dJ3_checkIndex_8e157_0 : decode cJ3_checkIndex_8e157 0 = .ok (.iload_n 0, 1) := by decide +kernel
theorem dJ3_checkIndex_8e157_1 : decode cJ3_checkIndex_8e157 1 = .ok (.ifCond .lt 8, 3) := by decide +kernel
theorem dJ3_checkIndex_8e157_4 : decode cJ3_checkIndex_8e157 4 = .ok (.iload_n 0, 1) := by decide +kernel
theorem dJ3_checkIndex_8e157_5 : decode cJ3_checkIndex_8e157 5 = .ok (.iload_n 1, 1) := by decide +kernel
theorem dJ3_checkIndex_8e157_6 : decode cJ3_checkIndex_8e157 6 = .ok (.if_icmp .lt 10, 3) := by decide +kernel
theorem dJ3_checkIndex_8e157_9 : decode cJ3_checkIndex_8e157 9 = .ok (.aload_n 2, 1) := by decide +kernel
theorem dJ3_checkIndex_8e157_10 : decode cJ3_checkIndex_8e157 10 = .ok (.iload_n 0, 1) := by decide +kernel
theorem dJ3_checkIndex_8e157_11 : decode cJ3_checkIndex_8e157 11 = .ok (.iload_n 1, 1) := by decide +kernel
theorem dJ3_checkIndex_8e157_12 : decode cJ3_checkIndex_8e157 12 = .ok (.invokestatic 95, 3) := by decide +kernel
theorem dJ3_checkIndex_8e157_15 : decode cJ3_checkIndex_8e157 15 = .ok (.athrow, 1) := by decide +kernel
theorem dJ3_checkIndex_8e157_16 : decode cJ3_checkIndex_8e157 16 = .ok (.iload_n 0, 1) := by decide +kernel
theorem dJ3_checkIndex_8e157_17 : decode cJ3_checkIndex_8e157 17 = .ok (.ireturn, 1) := by decide +kernel
end
section
theorem dX3_init_0 : decode cX3_init 0 = .ok (.aload_n 0, 1) := by decide +kernel
theorem dX3_init_1 : decode cX3_init 1 = .ok (.invokespecial 1, 3) := by decide +kernel
theorem dX3_init_4 : decode cX3_init 4 = .ok (.aload_n 0, 1) := by decide +kernel
theorem dX3_init_5 : decode cX3_init 5 = .ok (.new 7, 3) := by decide +kernel
theorem dX3_init_8 : decode cX3_init 8 = .ok (.dup, 1) := by decide +kernel
theorem dX3_init_9 : decode cX3_init 9 = .ok (.invokespecial 9, 3) := by decide +kernel
theorem dX3_init_12 : decode cX3_init 12 = .ok (.putfield 10, 3) := by decide +kernel
theorem dX3_init_15 : decode cX3_init 15 = .ok (.aload_n 0, 1) := by decide +kernel
theorem dX3_init_16 : decode cX3_init 16 = .ok (.new 16, 3) := by decide +kernel
theorem dX3_init_19 : decode cX3_init 19 = .ok (.dup, 1) := by decide +kernel
theorem dX3_init_20 : decode cX3_init 20 = .ok (.invokespecial 18, 3) := by decide +kernel
theorem dX3_init_23 : decode cX3_init 23 = .ok (.putfield 19, 3) := by decide +kernel
theorem dX3_init_26 : decode cX3_init 26 = .ok (.return_, 1) := by decide +kernel
theorem dX3_readAll_0 : decode cX3_readAll 0 = .ok (.aload_n 0, 1) := by decide +kernel
theorem dX3_readAll_1 : decode cX3_readAll 1 = .ok (.getfield 19, 3) := by decide +kernel
theorem dX3_readAll_4 : decode cX3_readAll 4 = .ok (.invokevirtual 23, 3) := by decide +kernel
theorem dX3_readAll_7 : decode cX3_readAll 7 = .ok (.aload_n 0, 1) := by decide +kernel
theorem dX3_readAll_8 : decode cX3_readAll 8 = .ok (.getfield 10, 3) := by decide +kernel
theorem dX3_readAll_11 : decode cX3_readAll 11 = .ok (.invokevirtual 26, 3) := by decide +kernel
theorem dX3_readAll_14 : decode cX3_readAll 14 = .ok (.aload_n 0, 1) := by decide +kernel
theorem dX3_readAll_15 : decode cX3_readAll 15 = .ok (.iconst (-1), 1) := by decide +kernel
theorem dX3_readAll_16 : decode cX3_readAll 16 = .ok (.putfield 29, 3) := by decide +kernel
theorem dX3_readAll_19 : decode cX3_readAll 19 = .ok (.aload_n 0, 1) := by decide +kernel
theorem dX3_readAll_20 : decode cX3_readAll 20 = .ok (.iconst 0, 1) := by decide +kernel
theorem dX3_readAll_21 : decode cX3_readAll 21 = .ok (.putfield 33, 3) := by decide +kernel
theorem dX3_readAll_24 : decode cX3_readAll 24 = .ok (.aload_n 0, 1) := by decide +kernel
theorem dX3_readAll_25 : decode cX3_readAll 25 = .ok (.iconst 0, 1) := by decide +kernel
theorem dX3_readAll_26 : decode cX3_readAll 26 = .ok (.putfield 36, 3) := by decide +kernel
theorem dX3_readAll_29 : decode cX3_readAll 29 = .ok (.aload_n 0, 1) := by decide +kernel
theorem dX3_readAll_30 : decode cX3_readAll 30 = .ok (.iconst 0, 1) := by decide +kernel
theorem dX3_readAll_31 : decode cX3_readAll 31 = .ok (.putfield 39, 3) := by decide +kernel
theorem dX3_readAll_34 : decode cX3_readAll 34 = .ok (.iconst 0, 1) := by decide +kernel
theorem dX3_readAll_35 : decode cX3_readAll 35 = .ok (.istore_n 1, 1) := by decide +kernel
theorem dX3_readAll_36 : decode cX3_readAll 36 = .ok (.iload_n 1, 1) := by decide +kernel
theorem dX3_readAll_37 : decode cX3_readAll 37 = .ok (.sipush 320, 3) := by decide +kernel
theorem dX3_readAll_40 : decode cX3_readAll 40 = .ok (.if_icmp .gt 50, 3) := by decide +kernel
theorem dX3_readAll_43 : decode cX3_readAll 43 = .ok (.aload_n 0, 1) := by decide +kernel
theorem dX3_readAll_44 : decode cX3_readAll 44 = .ok (.getfield 39, 3) := by decide +kernel
theorem dX3_readAll_47 : decode cX3_readAll 47 = .ok (.ifCond .ne 43, 3) := by decide +kernel
theorem dX3_readAll_50 : decode cX3_readAll 50 = .ok (.aload_n 0, 1) := by decide +kernel
theorem dX3_readAll_51 : decode cX3_readAll 51 = .ok (.getfield 10, 3) := by decide +kernel
theorem dX3_readAll_54 : decode cX3_readAll 54 = .ok (.invokevirtual 42, 3) := by decide +kernel
theorem dX3_readAll_57 : decode cX3_readAll 57 = .ok (.aload_n 0, 1) := by decide +kernel
theorem dX3_readAll_58 : decode cX3_readAll 58 = .ok (.getfield 10, 3) := by decide +kernel
theorem dX3_readAll_61 : decode cX3_readAll 61 = .ok (.getfield 45, 3) := by decide +kernel
theorem dX3_readAll_64 : decode cX3_readAll 64 = .ok (.ifCond .ne 16, 3) := by decide +kernel
theorem dX3_readAll_67 : decode cX3_readAll 67 = .ok (.aload_n 0, 1) := by decide +kernel
theorem dX3_readAll_68 : decode cX3_readAll 68 = .ok (.getfield 29, 3) := by decide +kernel
theorem dX3_readAll_71 : decode cX3_readAll 71 = .ok (.iconst (-1), 1) := by decide +kernel
theorem dX3_readAll_72 : decode cX3_readAll 72 = .ok (.if_icmp .ne 8, 3) := by decide +kernel
theorem dX3_readAll_75 : decode cX3_readAll 75 = .ok (.aload_n 0, 1) := by decide +kernel
theorem dX3_readAll_76 : decode cX3_readAll 76 = .ok (.getfield 33, 3) := by decide +kernel
theorem dX3_readAll_79 : decode cX3_readAll 79 = .ok (.ireturn, 1) := by decide +kernel
theorem dX3_readAll_80 : decode cX3_readAll 80 = .ok (.aload_n 0, 1) := by decide +kernel
theorem dX3_readAll_81 : decode cX3_readAll 81 = .ok (.invokevirtual 48, 3) := by decide +kernel
theorem dX3_readAll_84 : decode cX3_readAll 84 = .ok (.iinc 1 1, 3) := by decide +kernel
theorem dX3_readAll_87 : decode cX3_readAll 87 = .ok (.goto (-51), 3) := by decide +kernel
theorem dX3_readAll_90 : decode cX3_readAll 90 = .ok (.aload_n 0, 1) := by decide +kernel
theorem dX3_readAll_91 : decode cX3_readAll 91 = .ok (.getfield 33, 3) := by decide +kernel
theorem dX3_readAll_94 : decode cX3_readAll 94 = .ok (.ireturn, 1) := by decide +kernel
theorem dX3_takeToken_0 : decode cX3_takeToken 0 = .ok (.aload_n 0, 1) := by decide +kernel
theorem dX3_takeToken_1 : decode cX3_takeToken 1 = .ok (.getfield 10, 3) := by decide +kernel
theorem dX3_takeToken_4 : decode cX3_takeToken 4 = .ok (.getfield 45, 3) := by decide +kernel
theorem dX3_takeToken_7 : decode cX3_takeToken 7 = .ok (.iconst 5, 1) := by decide +kernel
theorem dX3_takeToken_8 : decode cX3_takeToken 8 = .ok (.if_icmp .ne 11, 3) := by decide +kernel
theorem dX3_takeToken_11 : decode cX3_takeToken 11 = .ok (.aload_n 0, 1) := by decide +kernel
theorem dX3_takeToken_12 : decode cX3_takeToken 12 = .ok (.iconst 1, 1) := by decide +kernel
theorem dX3_takeToken_13 : decode cX3_takeToken 13 = .ok (.invokevirtual 51, 3) := by decide +kernel
theorem dX3_takeToken_16 : decode cX3_takeToken 16 = .ok (.goto 54, 3) := by decide +kernel
theorem dX3_takeToken_19 : decode cX3_takeToken 19 = .ok (.aload_n 0, 1) := by decide +kernel
theorem dX3_takeToken_20 : decode cX3_takeToken 20 = .ok (.getfield 29, 3) := by decide +kernel
theorem dX3_takeToken_23 : decode cX3_takeToken 23 = .ok (.ifCond .lt 14, 3) := by decide +kernel
theorem dX3_takeToken_26 : decode cX3_takeToken 26 = .ok (.aload_n 0, 1) := by decide +kernel
theorem dX3_takeToken_27 : decode cX3_takeToken 27 = .ok (.getfield 29, 3) := by decide +kernel
theorem dX3_takeToken_30 : decode cX3_takeToken 30 = .ok (.getstatic 55, 3) := by decide +kernel
theorem dX3_takeToken_33 : decode cX3_takeToken 33 = .ok (.arraylength, 1) := by decide +kernel
theorem dX3_takeToken_34 : decode cX3_takeToken 34 = .ok (.if_icmp .lt 10, 3) := by decide +kernel
theorem dX3_takeToken_37 : decode cX3_takeToken 37 = .ok (.aload_n 0, 1) := by decide +kernel
theorem dX3_takeToken_38 : decode cX3_takeToken 38 = .ok (.invokevirtual 59, 3) := by decide +kernel
theorem dX3_takeToken_41 : decode cX3_takeToken 41 = .ok (.goto 29, 3) := by decide +kernel
theorem dX3_takeToken_44 : decode cX3_takeToken 44 = .ok (.aload_n 0, 1) := by decide +kernel
theorem dX3_takeToken_45 : decode cX3_takeToken 45 = .ok (.getfield 62, 3) := by decide +kernel
theorem dX3_takeToken_48 : decode cX3_takeToken 48 = .ok (.getstatic 55, 3) := by decide +kernel
theorem dX3_takeToken_51 : decode cX3_takeToken 51 = .ok (.aload_n 0, 1) := by decide +kernel
theorem dX3_takeToken_52 : decode cX3_takeToken 52 = .ok (.getfield 29, 3) := by decide +kernel
theorem dX3_takeToken_55 : decode cX3_takeToken 55 = .ok (.iaload, 1) := by decide +kernel
theorem dX3_takeToken_56 : decode cX3_takeToken 56 = .ok (.if_icmp .ge 10, 3) := by decide +kernel
theorem dX3_takeToken_59 : decode cX3_takeToken 59 = .ok (.aload_n 0, 1) := by decide +kernel
theorem dX3_takeToken_60 : decode cX3_takeToken 60 = .ok (.invokevirtual 65, 3) := by decide +kernel
theorem dX3_takeToken_63 : decode cX3_takeToken 63 = .ok (.goto 7, 3) := by decide +kernel
theorem dX3_takeToken_66 : decode cX3_takeToken 66 = .ok (.aload_n 0, 1) := by decide +kernel
theorem dX3_takeToken_67 : decode cX3_takeToken 67 = .ok (.invokevirtual 68, 3) := by decide +kernel
theorem dX3_takeToken_70 : decode cX3_takeToken 70 = .ok (.return_, 1) := by decide +kernel
theorem dX3_beginLine_0 : decode cX3_beginLine 0 = .ok (.aload_n 0, 1) := by decide +kernel
theorem dX3_beginLine_1 : decode cX3_beginLine 1 = .ok (.invokevirtual 71, 3) := by decide +kernel
theorem dX3_beginLine_4 : decode cX3_beginLine 4 = .ok (.istore_n 1, 1) := by decide +kernel
theorem dX3_beginLine_5 : decode cX3_beginLine 5 = .ok (.iload_n 1, 1) := by decide +kernel
theorem dX3_beginLine_6 : decode cX3_beginLine 6 = .ok (.iconst (-1), 1) := by decide +kernel
theorem dX3_beginLine_7 : decode cX3_beginLine 7 = .ok (.if_icmp .ne 11, 3) := by decide +kernel
theorem dX3_beginLine_10 : decode cX3_beginLine 10 = .ok (.aload_n 0, 1) := by decide +kernel
theorem dX3_beginLine_11 : decode cX3_beginLine 11 = .ok (.iconst 2, 1) := by decide +kernel
theorem dX3_beginLine_12 : decode cX3_beginLine 12 = .ok (.invokevirtual 51, 3) := by decide +kernel
theorem dX3_beginLine_15 : decode cX3_beginLine 15 = .ok (.goto 70, 3) := by decide +kernel
theorem dX3_beginLine_18 : decode cX3_beginLine 18 = .ok (.iload_n 1, 1) := by decide +kernel
theorem dX3_beginLine_19 : decode cX3_beginLine 19 = .ok (.ifCond .ne 21, 3) := by decide +kernel
theorem dX3_beginLine_22 : decode cX3_beginLine 22 = .ok (.aload_n 0, 1) := by decide +kernel
theorem dX3_beginLine_23 : decode cX3_beginLine 23 = .ok (.getfield 19, 3) := by decide +kernel
theorem dX3_beginLine_26 : decode cX3_beginLine 26 = .ok (.invokevirtual 75, 3) := by decide +kernel
theorem dX3_beginLine_29 : decode cX3_beginLine 29 = .ok (.ifCond .eq 11, 3) := by decide +kernel
theorem dX3_beginLine_32 : decode cX3_beginLine 32 = .ok (.aload_n 0, 1) := by decide +kernel
theorem dX3_beginLine_33 : decode cX3_beginLine 33 = .ok (.iconst 5, 1) := by decide +kernel
theorem dX3_beginLine_34 : decode cX3_beginLine 34 = .ok (.invokevirtual 51, 3) := by decide +kernel
theorem dX3_beginLine_37 : decode cX3_beginLine 37 = .ok (.goto 48, 3) := by decide +kernel
theorem dX3_beginLine_40 : decode cX3_beginLine 40 = .ok (.iload_n 1, 1) := by decide +kernel
theorem dX3_beginLine_41 : decode cX3_beginLine 41 = .ok (.ifCond .eq 22, 3) := by decide +kernel
theorem dX3_beginLine_44 : decode cX3_beginLine 44 = .ok (.aload_n 0, 1) := by decide +kernel
theorem dX3_beginLine_45 : decode cX3_beginLine 45 = .ok (.getfield 36, 3) := by decide +kernel
theorem dX3_beginLine_48 : decode cX3_beginLine 48 = .ok (.iload_n 1, 1) := by decide +kernel
theorem dX3_beginLine_49 : decode cX3_beginLine 49 = .ok (.ishr, 1) := by decide +kernel
theorem dX3_beginLine_50 : decode cX3_beginLine 50 = .ok (.iconst 1, 1) := by decide +kernel
theorem dX3_beginLine_51 : decode cX3_beginLine 51 = .ok (.iand, 1) := by decide +kernel
theorem dX3_beginLine_52 : decode cX3_beginLine 52 = .ok (.ifCond .eq 11, 3) := by decide +kernel
theorem dX3_beginLine_55 : decode cX3_beginLine 55 = .ok (.aload_n 0, 1) := by decide +kernel
theorem dX3_beginLine_56 : decode cX3_beginLine 56 = .ok (.iconst 4, 1) := by decide +kernel
theorem dX3_beginLine_57 : decode cX3_beginLine 57 = .ok (.invokevirtual 51, 3) := by decide +kernel
theorem dX3_beginLine_60 : decode cX3_beginLine 60 = .ok (.goto 25, 3) := by decide +kernel
theorem dX3_beginLine_63 : decode cX3_beginLine 63 = .ok (.aload_n 0, 1) := by decide +kernel
theorem dX3_beginLine_64 : decode cX3_beginLine 64 = .ok (.dup, 1) := by decide +kernel
theorem dX3_beginLine_65 : decode cX3_beginLine 65 = .ok (.getfield 36, 3) := by decide +kernel
theorem dX3_beginLine_68 : decode cX3_beginLine 68 = .ok (.iconst 1, 1) := by decide +kernel
theorem dX3_beginLine_69 : decode cX3_beginLine 69 = .ok (.iload_n 1, 1) := by decide +kernel
theorem dX3_beginLine_70 : decode cX3_beginLine 70 = .ok (.ishl, 1) := by decide +kernel
theorem dX3_beginLine_71 : decode cX3_beginLine 71 = .ok (.ior, 1) := by decide +kernel
theorem dX3_beginLine_72 : decode cX3_beginLine 72 = .ok (.putfield 36, 3) := by decide +kernel
theorem dX3_beginLine_75 : decode cX3_beginLine 75 = .ok (.aload_n 0, 1) := by decide +kernel
theorem dX3_beginLine_76 : decode cX3_beginLine 76 = .ok (.iload_n 1, 1) := by decide +kernel
theorem dX3_beginLine_77 : decode cX3_beginLine 77 = .ok (.putfield 29, 3) := by decide +kernel
theorem dX3_beginLine_80 : decode cX3_beginLine 80 = .ok (.aload_n 0, 1) := by decide +kernel
theorem dX3_beginLine_81 : decode cX3_beginLine 81 = .ok (.iconst 0, 1) := by decide +kernel
theorem dX3_beginLine_82 : decode cX3_beginLine 82 = .ok (.putfield 62, 3) := by decide +kernel
theorem dX3_beginLine_85 : decode cX3_beginLine 85 = .ok (.return_, 1) := by decide +kernel
theorem dX3_lineNamed_0 : decode cX3_lineNamed 0 = .ok (.aload_n 0, 1) := by decide +kernel
theorem dX3_lineNamed_1 : decode cX3_lineNamed 1 = .ok (.getfield 10, 3) := by decide +kernel
theorem dX3_lineNamed_4 : decode cX3_lineNamed 4 = .ok (.ldc 79, 2) := by decide +kernel
theorem dX3_lineNamed_6 : decode cX3_lineNamed 6 = .ok (.invokevirtual 81, 3) := by decide +kernel
theorem dX3_lineNamed_9 : decode cX3_lineNamed 9 = .ok (.ifCond .eq 5, 3) := by decide +kernel
theorem dX3_lineNamed_12 : decode cX3_lineNamed 12 = .ok (.iconst 0, 1) := by decide +kernel
theorem dX3_lineNamed_13 : decode cX3_lineNamed 13 = .ok (.ireturn, 1) := by decide +kernel
theorem dX3_lineNamed_14 : decode cX3_lineNamed 14 = .ok (.aload_n 0, 1) := by decide +kernel
theorem dX3_lineNamed_15 : decode cX3_lineNamed 15 = .ok (.getfield 10, 3) := by decide +kernel
theorem dX3_lineNamed_18 : decode cX3_lineNamed 18 = .ok (.ldc 85, 2) := by decide +kernel
theorem dX3_lineNamed_20 : decode cX3_lineNamed 20 = .ok (.invokevirtual 81, 3) := by decide +kernel
theorem dX3_lineNamed_23 : decode cX3_lineNamed 23 = .ok (.ifCond .eq 5, 3) := by decide +kernel
theorem dX3_lineNamed_26 : decode cX3_lineNamed 26 = .ok (.iconst 1, 1) := by decide +kernel
theorem dX3_lineNamed_27 : decode cX3_lineNamed 27 = .ok (.ireturn, 1) := by decide +kernel
theorem dX3_lineNamed_28 : decode cX3_lineNamed 28 = .ok (.aload_n 0, 1) := by decide +kernel
theorem dX3_lineNamed_29 : decode cX3_lineNamed 29 = .ok (.getfield 10, 3) := by decide +kernel
theorem dX3_lineNamed_32 : decode cX3_lineNamed 32 = .ok (.ldc 87, 2) := by decide +kernel
theorem dX3_lineNamed_34 : decode cX3_lineNamed 34 = .ok (.invokevirtual 81, 3) := by decide +kernel
theorem dX3_lineNamed_37 : decode cX3_lineNamed 37 = .ok (.ifCond .eq 5, 3) := by decide +kernel
theorem dX3_lineNamed_40 : decode cX3_lineNamed 40 = .ok (.iconst 2, 1) := by decide +kernel
theorem dX3_lineNamed_41 : decode cX3_lineNamed 41 = .ok (.ireturn, 1) := by decide +kernel
theorem dX3_lineNamed_42 : decode cX3_lineNamed 42 = .ok (.aload_n 0, 1) := by decide +kernel
theorem dX3_lineNamed_43 : decode cX3_lineNamed 43 = .ok (.getfield 10, 3) := by decide +kernel
theorem dX3_lineNamed_46 : decode cX3_lineNamed 46 = .ok (.ldc 89, 2) := by decide +kernel
theorem dX3_lineNamed_48 : decode cX3_lineNamed 48 = .ok (.invokevirtual 81, 3) := by decide +kernel
theorem dX3_lineNamed_51 : decode cX3_lineNamed 51 = .ok (.ifCond .eq 5, 3) := by decide +kernel
theorem dX3_lineNamed_54 : decode cX3_lineNamed 54 = .ok (.iconst 3, 1) := by decide +kernel
theorem dX3_lineNamed_55 : decode cX3_lineNamed 55 = .ok (.ireturn, 1) := by decide +kernel
theorem dX3_lineNamed_56 : decode cX3_lineNamed 56 = .ok (.aload_n 0, 1) := by decide +kernel
theorem dX3_lineNamed_57 : decode cX3_lineNamed 57 = .ok (.getfield 10, 3) := by decide +kernel
theorem dX3_lineNamed_60 : decode cX3_lineNamed 60 = .ok (.ldc 91, 2) := by decide +kernel
theorem dX3_lineNamed_62 : decode cX3_lineNamed 62 = .ok (.invokevirtual 81, 3) := by decide +kernel
theorem dX3_lineNamed_65 : decode cX3_lineNamed 65 = .ok (.ifCond .eq 5, 3) := by decide +kernel
theorem dX3_lineNamed_68 : decode cX3_lineNamed 68 = .ok (.iconst 4, 1) := by decide +kernel
theorem dX3_lineNamed_69 : decode cX3_lineNamed 69 = .ok (.ireturn, 1) := by decide +kernel
theorem dX3_lineNamed_70 : decode cX3_lineNamed 70 = .ok (.aload_n 0, 1) := by decide +kernel
theorem dX3_lineNamed_71 : decode cX3_lineNamed 71 = .ok (.getfield 10, 3) := by decide +kernel
theorem dX3_lineNamed_74 : decode cX3_lineNamed 74 = .ok (.ldc 93, 2) := by decide +kernel
theorem dX3_lineNamed_76 : decode cX3_lineNamed 76 = .ok (.invokevirtual 81, 3) := by decide +kernel
theorem dX3_lineNamed_79 : decode cX3_lineNamed 79 = .ok (.ifCond .eq 5, 3) := by decide +kernel
theorem dX3_lineNamed_82 : decode cX3_lineNamed 82 = .ok (.iconst 5, 1) := by decide +kernel
theorem dX3_lineNamed_83 : decode cX3_lineNamed 83 = .ok (.ireturn, 1) := by decide +kernel
theorem dX3_lineNamed_84 : decode cX3_lineNamed 84 = .ok (.aload_n 0, 1) := by decide +kernel
theorem dX3_lineNamed_85 : decode cX3_lineNamed 85 = .ok (.getfield 10, 3) := by decide +kernel
theorem dX3_lineNamed_88 : decode cX3_lineNamed 88 = .ok (.ldc 95, 2) := by decide +kernel
theorem dX3_lineNamed_90 : decode cX3_lineNamed 90 = .ok (.invokevirtual 81, 3) := by decide +kernel
theorem dX3_lineNamed_93 : decode cX3_lineNamed 93 = .ok (.ifCond .eq 6, 3) := by decide +kernel
theorem dX3_lineNamed_96 : decode cX3_lineNamed 96 = .ok (.bipush 6, 2) := by decide +kernel
theorem dX3_lineNamed_98 : decode cX3_lineNamed 98 = .ok (.ireturn, 1) := by decide +kernel
theorem dX3_lineNamed_99 : decode cX3_lineNamed 99 = .ok (.aload_n 0, 1) := by decide +kernel
theorem dX3_lineNamed_100 : decode cX3_lineNamed 100 = .ok (.getfield 10, 3) := by decide +kernel
theorem dX3_lineNamed_103 : decode cX3_lineNamed 103 = .ok (.ldc 97, 2) := by decide +kernel
theorem dX3_lineNamed_105 : decode cX3_lineNamed 105 = .ok (.invokevirtual 81, 3) := by decide +kernel
theorem dX3_lineNamed_108 : decode cX3_lineNamed 108 = .ok (.ifCond .eq 8, 3) := by decide +kernel
theorem dX3_lineNamed_111 : decode cX3_lineNamed 111 = .ok (.bipush 7, 2) := by decide +kernel
theorem dX3_lineNamed_113 : decode cX3_lineNamed 113 = .ok (.goto 4, 3) := by decide +kernel
theorem dX3_lineNamed_116 : decode cX3_lineNamed 116 = .ok (.iconst (-1), 1) := by decide +kernel
theorem dX3_lineNamed_117 : decode cX3_lineNamed 117 = .ok (.ireturn, 1) := by decide +kernel
theorem dX3_takeNumber_0 : decode cX3_takeNumber 0 = .ok (.aload_n 0, 1) := by decide +kernel
theorem dX3_takeNumber_1 : decode cX3_takeNumber 1 = .ok (.getfield 29, 3) := by decide +kernel
theorem dX3_takeNumber_4 : decode cX3_takeNumber 4 = .ok (.getstatic 99, 3) := by decide +kernel
theorem dX3_takeNumber_7 : decode cX3_takeNumber 7 = .ok (.arraylength, 1) := by decide +kernel
theorem dX3_takeNumber_8 : decode cX3_takeNumber 8 = .ok (.if_icmp .ge 19, 3) := by decide +kernel
theorem dX3_takeNumber_11 : decode cX3_takeNumber 11 = .ok (.getstatic 99, 3) := by decide +kernel
theorem dX3_takeNumber_14 : decode cX3_takeNumber 14 = .ok (.aload_n 0, 1) := by decide +kernel
theorem dX3_takeNumber_15 : decode cX3_takeNumber 15 = .ok (.getfield 29, 3) := by decide +kernel
theorem dX3_takeNumber_18 : decode cX3_takeNumber 18 = .ok (.iaload, 1) := by decide +kernel
theorem dX3_takeNumber_19 : decode cX3_takeNumber 19 = .ok (.aload_n 0, 1) := by decide +kernel
theorem dX3_takeNumber_20 : decode cX3_takeNumber 20 = .ok (.getfield 62, 3) := by decide +kernel
theorem dX3_takeNumber_23 : decode cX3_takeNumber 23 = .ok (.iadd, 1) := by decide +kernel
theorem dX3_takeNumber_24 : decode cX3_takeNumber 24 = .ok (.goto 7, 3) := by decide +kernel
theorem dX3_takeNumber_27 : decode cX3_takeNumber 27 = .ok (.getstatic 102, 3) := by decide +kernel
theorem dX3_takeNumber_30 : decode cX3_takeNumber 30 = .ok (.arraylength, 1) := by decide +kernel
theorem dX3_takeNumber_31 : decode cX3_takeNumber 31 = .ok (.istore_n 1, 1) := by decide +kernel
theorem dX3_takeNumber_32 : decode cX3_takeNumber 32 = .ok (.aload_n 0, 1) := by decide +kernel
theorem dX3_takeNumber_33 : decode cX3_takeNumber 33 = .ok (.getfield 10, 3) := by decide +kernel
theorem dX3_takeNumber_36 : decode cX3_takeNumber 36 = .ok (.getfield 45, 3) := by decide +kernel
theorem dX3_takeNumber_39 : decode cX3_takeNumber 39 = .ok (.iconst 3, 1) := by decide +kernel
theorem dX3_takeNumber_40 : decode cX3_takeNumber 40 = .ok (.if_icmp .ne 19, 3) := by decide +kernel
theorem dX3_takeNumber_43 : decode cX3_takeNumber 43 = .ok (.iload_n 1, 1) := by decide +kernel
theorem dX3_takeNumber_44 : decode cX3_takeNumber 44 = .ok (.getstatic 102, 3) := by decide +kernel
theorem dX3_takeNumber_47 : decode cX3_takeNumber 47 = .ok (.arraylength, 1) := by decide +kernel
theorem dX3_takeNumber_48 : decode cX3_takeNumber 48 = .ok (.if_icmp .ge 11, 3) := by decide +kernel
theorem dX3_takeNumber_51 : decode cX3_takeNumber 51 = .ok (.iload_n 1, 1) := by decide +kernel
theorem dX3_takeNumber_52 : decode cX3_takeNumber 52 = .ok (.getstatic 105, 3) := by decide +kernel
theorem dX3_takeNumber_55 : decode cX3_takeNumber 55 = .ok (.arraylength, 1) := by decide +kernel
theorem dX3_takeNumber_56 : decode cX3_takeNumber 56 = .ok (.if_icmp .lt 9, 3) := by decide +kernel
theorem dX3_takeNumber_59 : decode cX3_takeNumber 59 = .ok (.aload_n 0, 1) := by decide +kernel
theorem dX3_takeNumber_60 : decode cX3_takeNumber 60 = .ok (.iconst 2, 1) := by decide +kernel
theorem dX3_takeNumber_61 : decode cX3_takeNumber 61 = .ok (.invokevirtual 51, 3) := by decide +kernel
theorem dX3_takeNumber_64 : decode cX3_takeNumber 64 = .ok (.return_, 1) := by decide +kernel
theorem dX3_takeNumber_65 : decode cX3_takeNumber 65 = .ok (.iload_n 1, 1) := by decide +kernel
theorem dX3_takeNumber_66 : decode cX3_takeNumber 66 = .ok (.bipush 14, 2) := by decide +kernel
theorem dX3_takeNumber_68 : decode cX3_takeNumber 68 = .ok (.if_icmp .ne 16, 3) := by decide +kernel
theorem dX3_takeNumber_71 : decode cX3_takeNumber 71 = .ok (.aload_n 0, 1) := by decide +kernel
theorem dX3_takeNumber_72 : decode cX3_takeNumber 72 = .ok (.getfield 19, 3) := by decide +kernel
theorem dX3_takeNumber_75 : decode cX3_takeNumber 75 = .ok (.getfield 108, 3) := by decide +kernel
theorem dX3_takeNumber_78 : decode cX3_takeNumber 78 = .ok (.bipush 7, 2) := by decide +kernel
theorem dX3_takeNumber_80 : decode cX3_takeNumber 80 = .ok (.iaload, 1) := by decide +kernel
theorem dX3_takeNumber_81 : decode cX3_takeNumber 81 = .ok (.goto 8, 3) := by decide +kernel
theorem dX3_takeNumber_84 : decode cX3_takeNumber 84 = .ok (.getstatic 102, 3) := by decide +kernel
theorem dX3_takeNumber_87 : decode cX3_takeNumber 87 = .ok (.iload_n 1, 1) := by decide +kernel
theorem dX3_takeNumber_88 : decode cX3_takeNumber 88 = .ok (.iaload, 1) := by decide +kernel
theorem dX3_takeNumber_89 : decode cX3_takeNumber 89 = .ok (.istore_n 2, 1) := by decide +kernel
theorem dX3_takeNumber_90 : decode cX3_takeNumber 90 = .ok (.aload_n 0, 1) := by decide +kernel
theorem dX3_takeNumber_91 : decode cX3_takeNumber 91 = .ok (.getfield 10, 3) := by decide +kernel
theorem dX3_takeNumber_94 : decode cX3_takeNumber 94 = .ok (.getfield 111, 3) := by decide +kernel
theorem dX3_takeNumber_97 : decode cX3_takeNumber 97 = .ok (.iload_n 2, 1) := by decide +kernel
theorem dX3_takeNumber_98 : decode cX3_takeNumber 98 = .ok (.getstatic 105, 3) := by decide +kernel
theorem dX3_takeNumber_101 : decode cX3_takeNumber 101 = .ok (.iload_n 1, 1) := by decide +kernel
theorem dX3_takeNumber_102 : decode cX3_takeNumber 102 = .ok (.iaload, 1) := by decide +kernel
theorem dX3_takeNumber_103 : decode cX3_takeNumber 103 = .ok (.invokestatic 114, 3) := by decide +kernel
theorem dX3_takeNumber_106 : decode cX3_takeNumber 106 = .ok (.ifCond .eq 9, 3) := by decide +kernel
theorem dX3_takeNumber_109 : decode cX3_takeNumber 109 = .ok (.aload_n 0, 1) := by decide +kernel
theorem dX3_takeNumber_110 : decode cX3_takeNumber 110 = .ok (.iconst 3, 1) := by decide +kernel
theorem dX3_takeNumber_111 : decode cX3_takeNumber 111 = .ok (.invokevirtual 51, 3) := by decide +kernel
theorem dX3_takeNumber_114 : decode cX3_takeNumber 114 = .ok (.return_, 1) := by decide +kernel
theorem dX3_takeNumber_115 : decode cX3_takeNumber 115 = .ok (.aload_n 0, 1) := by decide +kernel
theorem dX3_takeNumber_116 : decode cX3_takeNumber 116 = .ok (.getfield 19, 3) := by decide +kernel
theorem dX3_takeNumber_119 : decode cX3_takeNumber 119 = .ok (.iload_n 1, 1) := by decide +kernel
theorem dX3_takeNumber_120 : decode cX3_takeNumber 120 = .ok (.aload_n 0, 1) := by decide +kernel
theorem dX3_takeNumber_121 : decode cX3_takeNumber 121 = .ok (.getfield 10, 3) := by decide +kernel
theorem dX3_takeNumber_124 : decode cX3_takeNumber 124 = .ok (.getfield 111, 3) := by decide +kernel
theorem dX3_takeNumber_127 : decode cX3_takeNumber 127 = .ok (.invokevirtual 120, 3) := by decide +kernel
theorem dX3_takeNumber_130 : decode cX3_takeNumber 130 = .ok (.aload_n 0, 1) := by decide +kernel
theorem dX3_takeNumber_131 : decode cX3_takeNumber 131 = .ok (.dup, 1) := by decide +kernel
theorem dX3_takeNumber_132 : decode cX3_takeNumber 132 = .ok (.getfield 62, 3) := by decide +kernel
theorem dX3_takeNumber_135 : decode cX3_takeNumber 135 = .ok (.iconst 1, 1) := by decide +kernel
theorem dX3_takeNumber_136 : decode cX3_takeNumber 136 = .ok (.iadd, 1) := by decide +kernel
theorem dX3_takeNumber_137 : decode cX3_takeNumber 137 = .ok (.putfield 62, 3) := by decide +kernel
theorem dX3_takeNumber_140 : decode cX3_takeNumber 140 = .ok (.return_, 1) := by decide +kernel
theorem dX3_endLine_0 : decode cX3_endLine 0 = .ok (.aload_n 0, 1) := by decide +kernel
theorem dX3_endLine_1 : decode cX3_endLine 1 = .ok (.getfield 10, 3) := by decide +kernel
theorem dX3_endLine_4 : decode cX3_endLine 4 = .ok (.getfield 45, 3) := by decide +kernel
theorem dX3_endLine_7 : decode cX3_endLine 7 = .ok (.iconst 4, 1) := by decide +kernel
theorem dX3_endLine_8 : decode cX3_endLine 8 = .ok (.if_icmp .eq 9, 3) := by decide +kernel
theorem dX3_endLine_11 : decode cX3_endLine 11 = .ok (.aload_n 0, 1) := by decide +kernel
theorem dX3_endLine_12 : decode cX3_endLine 12 = .ok (.iconst 2, 1) := by decide +kernel
theorem dX3_endLine_13 : decode cX3_endLine 13 = .ok (.invokevirtual 51, 3) := by decide +kernel
theorem dX3_endLine_16 : decode cX3_endLine 16 = .ok (.return_, 1) := by decide +kernel
theorem dX3_endLine_17 : decode cX3_endLine 17 = .ok (.aload_n 0, 1) := by decide +kernel
theorem dX3_endLine_18 : decode cX3_endLine 18 = .ok (.getfield 29, 3) := by decide +kernel
theorem dX3_endLine_21 : decode cX3_endLine 21 = .ok (.ifCond .ne 16, 3) := by decide +kernel
theorem dX3_endLine_24 : decode cX3_endLine 24 = .ok (.aload_n 0, 1) := by decide +kernel
theorem dX3_endLine_25 : decode cX3_endLine 25 = .ok (.getfield 19, 3) := by decide +kernel
theorem dX3_endLine_28 : decode cX3_endLine 28 = .ok (.dup, 1) := by decide +kernel
theorem dX3_endLine_29 : decode cX3_endLine 29 = .ok (.getfield 124, 3) := by decide +kernel
theorem dX3_endLine_32 : decode cX3_endLine 32 = .ok (.iconst 1, 1) := by decide +kernel
theorem dX3_endLine_33 : decode cX3_endLine 33 = .ok (.iadd, 1) := by decide +kernel
theorem dX3_endLine_34 : decode cX3_endLine 34 = .ok (.putfield 124, 3) := by decide +kernel
theorem dX3_endLine_37 : decode cX3_endLine 37 = .ok (.aload_n 0, 1) := by decide +kernel
theorem dX3_endLine_38 : decode cX3_endLine 38 = .ok (.dup, 1) := by decide +kernel
theorem dX3_endLine_39 : decode cX3_endLine 39 = .ok (.getfield 33, 3) := by decide +kernel
theorem dX3_endLine_42 : decode cX3_endLine 42 = .ok (.iconst 1, 1) := by decide +kernel
theorem dX3_endLine_43 : decode cX3_endLine 43 = .ok (.iadd, 1) := by decide +kernel
theorem dX3_endLine_44 : decode cX3_endLine 44 = .ok (.putfield 33, 3) := by decide +kernel
theorem dX3_endLine_47 : decode cX3_endLine 47 = .ok (.aload_n 0, 1) := by decide +kernel
theorem dX3_endLine_48 : decode cX3_endLine 48 = .ok (.iconst (-1), 1) := by decide +kernel
theorem dX3_endLine_49 : decode cX3_endLine 49 = .ok (.putfield 29, 3) := by decide +kernel
theorem dX3_endLine_52 : decode cX3_endLine 52 = .ok (.return_, 1) := by decide +kernel
theorem dX3_refuse_0 : decode cX3_refuse 0 = .ok (.aload_n 0, 1) := by decide +kernel
theorem dX3_refuse_1 : decode cX3_refuse 1 = .ok (.iload_n 1, 1) := by decide +kernel
theorem dX3_refuse_2 : decode cX3_refuse 2 = .ok (.putfield 39, 3) := by decide +kernel
theorem dX3_refuse_5 : decode cX3_refuse 5 = .ok (.aload_n 0, 1) := by decide +kernel
theorem dX3_refuse_6 : decode cX3_refuse 6 = .ok (.aload_n 0, 1) := by decide +kernel
theorem dX3_refuse_7 : decode cX3_refuse 7 = .ok (.getfield 10, 3) := by decide +kernel
theorem dX3_refuse_10 : decode cX3_refuse 10 = .ok (.getfield 127, 3) := by decide +kernel
theorem dX3_refuse_13 : decode cX3_refuse 13 = .ok (.putfield 130, 3) := by decide +kernel
theorem dX3_refuse_16 : decode cX3_refuse 16 = .ok (.return_, 1) := by decide +kernel
theorem dX5_init_0 : decode cX5_init 0 = .ok (.aload_n 0, 1) := by decide +kernel
theorem dX5_init_1 : decode cX5_init 1 = .ok (.invokespecial 1, 3) := by decide +kernel
theorem dX5_init_4 : decode cX5_init 4 = .ok (.aload_n 0, 1) := by decide +kernel
theorem dX5_init_5 : decode cX5_init 5 = .ok (.sipush 320, 3) := by decide +kernel
theorem dX5_init_8 : decode cX5_init 8 = .ok (.newarray .byte, 2) := by decide +kernel
theorem dX5_init_10 : decode cX5_init 10 = .ok (.putfield 9, 3) := by decide +kernel
theorem dX5_init_13 : decode cX5_init 13 = .ok (.return_, 1) := by decide +kernel
theorem dX5_put_0 : decode cX5_put 0 = .ok (.aload_n 0, 1) := by decide +kernel
theorem dX5_put_1 : decode cX5_put 1 = .ok (.getfield 13, 3) := by decide +kernel
theorem dX5_put_4 : decode cX5_put 4 = .ok (.sipush 312, 3) := by decide +kernel
theorem dX5_put_7 : decode cX5_put 7 = .ok (.if_icmp .le 5, 3) := by decide +kernel
theorem dX5_put_10 : decode cX5_put 10 = .ok (.iconst 0, 1) := by decide +kernel
theorem dX5_put_11 : decode cX5_put 11 = .ok (.ireturn, 1) := by decide +kernel
theorem dX5_put_12 : decode cX5_put 12 = .ok (.bipush 56, 2) := by decide +kernel
theorem dX5_put_14 : decode cX5_put 14 = .ok (.istore_n 3, 1) := by decide +kernel
theorem dX5_put_15 : decode cX5_put 15 = .ok (.iload_n 3, 1) := by decide +kernel
theorem dX5_put_16 : decode cX5_put 16 = .ok (.ifCond .lt 45, 3) := by decide +kernel
theorem dX5_put_19 : decode cX5_put 19 = .ok (.aload_n 0, 1) := by decide +kernel
theorem dX5_put_20 : decode cX5_put 20 = .ok (.getfield 13, 3) := by decide +kernel
theorem dX5_put_23 : decode cX5_put 23 = .ok (.aload_n 0, 1) := by decide +kernel
theorem dX5_put_24 : decode cX5_put 24 = .ok (.getfield 9, 3) := by decide +kernel
theorem dX5_put_27 : decode cX5_put 27 = .ok (.arraylength, 1) := by decide +kernel
theorem dX5_put_28 : decode cX5_put 28 = .ok (.if_icmp .ge 33, 3) := by decide +kernel
theorem dX5_put_31 : decode cX5_put 31 = .ok (.aload_n 0, 1) := by decide +kernel
theorem dX5_put_32 : decode cX5_put 32 = .ok (.getfield 9, 3) := by decide +kernel
theorem dX5_put_35 : decode cX5_put 35 = .ok (.aload_n 0, 1) := by decide +kernel
theorem dX5_put_36 : decode cX5_put 36 = .ok (.getfield 13, 3) := by decide +kernel
theorem dX5_put_39 : decode cX5_put 39 = .ok (.lload_n 1, 1) := by decide +kernel
theorem dX5_put_40 : decode cX5_put 40 = .ok (.iload_n 3, 1) := by decide +kernel
theorem dX5_put_41 : decode cX5_put 41 = .ok (.lshr, 1) := by decide +kernel
theorem dX5_put_42 : decode cX5_put 42 = .ok (.l2i, 1) := by decide +kernel
theorem dX5_put_43 : decode cX5_put 43 = .ok (.i2b, 1) := by decide +kernel
theorem dX5_put_44 : decode cX5_put 44 = .ok (.bastore, 1) := by decide +kernel
theorem dX5_put_45 : decode cX5_put 45 = .ok (.aload_n 0, 1) := by decide +kernel
theorem dX5_put_46 : decode cX5_put 46 = .ok (.dup, 1) := by decide +kernel
theorem dX5_put_47 : decode cX5_put 47 = .ok (.getfield 13, 3) := by decide +kernel
theorem dX5_put_50 : decode cX5_put 50 = .ok (.iconst 1, 1) := by decide +kernel
theorem dX5_put_51 : decode cX5_put 51 = .ok (.iadd, 1) := by decide +kernel
theorem dX5_put_52 : decode cX5_put 52 = .ok (.putfield 13, 3) := by decide +kernel
theorem dX5_put_55 : decode cX5_put 55 = .ok (.iinc 3 (-8), 3) := by decide +kernel
theorem dX5_put_58 : decode cX5_put 58 = .ok (.goto (-43), 3) := by decide +kernel
theorem dX5_put_61 : decode cX5_put 61 = .ok (.iconst 1, 1) := by decide +kernel
theorem dX5_put_62 : decode cX5_put 62 = .ok (.ireturn, 1) := by decide +kernel
theorem dX5_byteAt_0 : decode cX5_byteAt 0 = .ok (.iload_n 1, 1) := by decide +kernel
theorem dX5_byteAt_1 : decode cX5_byteAt 1 = .ok (.ifCond .lt 29, 3) := by decide +kernel
theorem dX5_byteAt_4 : decode cX5_byteAt 4 = .ok (.iload_n 1, 1) := by decide +kernel
theorem dX5_byteAt_5 : decode cX5_byteAt 5 = .ok (.aload_n 0, 1) := by decide +kernel
theorem dX5_byteAt_6 : decode cX5_byteAt 6 = .ok (.getfield 13, 3) := by decide +kernel
theorem dX5_byteAt_9 : decode cX5_byteAt 9 = .ok (.if_icmp .ge 21, 3) := by decide +kernel
theorem dX5_byteAt_12 : decode cX5_byteAt 12 = .ok (.iload_n 1, 1) := by decide +kernel
theorem dX5_byteAt_13 : decode cX5_byteAt 13 = .ok (.aload_n 0, 1) := by decide +kernel
theorem dX5_byteAt_14 : decode cX5_byteAt 14 = .ok (.getfield 9, 3) := by decide +kernel
theorem dX5_byteAt_17 : decode cX5_byteAt 17 = .ok (.arraylength, 1) := by decide +kernel
theorem dX5_byteAt_18 : decode cX5_byteAt 18 = .ok (.if_icmp .ge 12, 3) := by decide +kernel
theorem dX5_byteAt_21 : decode cX5_byteAt 21 = .ok (.aload_n 0, 1) := by decide +kernel
theorem dX5_byteAt_22 : decode cX5_byteAt 22 = .ok (.getfield 9, 3) := by decide +kernel
theorem dX5_byteAt_25 : decode cX5_byteAt 25 = .ok (.iload_n 1, 1) := by decide +kernel
theorem dX5_byteAt_26 : decode cX5_byteAt 26 = .ok (.baload, 1) := by decide +kernel
theorem dX5_byteAt_27 : decode cX5_byteAt 27 = .ok (.goto 4, 3) := by decide +kernel
theorem dX5_byteAt_30 : decode cX5_byteAt 30 = .ok (.iconst 0, 1) := by decide +kernel
theorem dX5_byteAt_31 : decode cX5_byteAt 31 = .ok (.ireturn, 1) := by decide +kernel
theorem dX5_rewind_0 : decode cX5_rewind 0 = .ok (.aload_n 0, 1) := by decide +kernel
theorem dX5_rewind_1 : decode cX5_rewind 1 = .ok (.iconst 0, 1) := by decide +kernel
theorem dX5_rewind_2 : decode cX5_rewind 2 = .ok (.putfield 17, 3) := by decide +kernel
theorem dX5_rewind_5 : decode cX5_rewind 5 = .ok (.return_, 1) := by decide +kernel
theorem dX5_advance_0 : decode cX5_advance 0 = .ok (.aload_n 0, 1) := by decide +kernel
theorem dX5_advance_1 : decode cX5_advance 1 = .ok (.aload_n 0, 1) := by decide +kernel
theorem dX5_advance_2 : decode cX5_advance 2 = .ok (.getfield 17, 3) := by decide +kernel
theorem dX5_advance_5 : decode cX5_advance 5 = .ok (.putfield 20, 3) := by decide +kernel
theorem dX5_advance_8 : decode cX5_advance 8 = .ok (.iconst 0, 1) := by decide +kernel
theorem dX5_advance_9 : decode cX5_advance 9 = .ok (.istore_n 1, 1) := by decide +kernel
theorem dX5_advance_10 : decode cX5_advance 10 = .ok (.iload_n 1, 1) := by decide +kernel
theorem dX5_advance_11 : decode cX5_advance 11 = .ok (.sipush 320, 3) := by decide +kernel
theorem dX5_advance_14 : decode cX5_advance 14 = .ok (.if_icmp .ge 31, 3) := by decide +kernel
theorem dX5_advance_17 : decode cX5_advance 17 = .ok (.aload_n 0, 1) := by decide +kernel
theorem dX5_advance_18 : decode cX5_advance 18 = .ok (.aload_n 0, 1) := by decide +kernel
theorem dX5_advance_19 : decode cX5_advance 19 = .ok (.getfield 20, 3) := by decide +kernel
theorem dX5_advance_22 : decode cX5_advance 22 = .ok (.invokevirtual 23, 3) := by decide +kernel
theorem dX5_advance_25 : decode cX5_advance 25 = .ok (.iconst 1, 1) := by decide +kernel
theorem dX5_advance_26 : decode cX5_advance 26 = .ok (.if_icmp .ne 19, 3) := by decide +kernel
theorem dX5_advance_29 : decode cX5_advance 29 = .ok (.aload_n 0, 1) := by decide +kernel
theorem dX5_advance_30 : decode cX5_advance 30 = .ok (.dup, 1) := by decide +kernel
theorem dX5_advance_31 : decode cX5_advance 31 = .ok (.getfield 20, 3) := by decide +kernel
theorem dX5_advance_34 : decode cX5_advance 34 = .ok (.iconst 1, 1) := by decide +kernel
theorem dX5_advance_35 : decode cX5_advance 35 = .ok (.iadd, 1) := by decide +kernel
theorem dX5_advance_36 : decode cX5_advance 36 = .ok (.putfield 20, 3) := by decide +kernel
theorem dX5_advance_39 : decode cX5_advance 39 = .ok (.iinc 1 1, 3) := by decide +kernel
theorem dX5_advance_42 : decode cX5_advance 42 = .ok (.goto (-32), 3) := by decide +kernel
theorem dX5_advance_45 : decode cX5_advance 45 = .ok (.aload_n 0, 1) := by decide +kernel
theorem dX5_advance_46 : decode cX5_advance 46 = .ok (.aload_n 0, 1) := by decide +kernel
theorem dX5_advance_47 : decode cX5_advance 47 = .ok (.aload_n 0, 1) := by decide +kernel
theorem dX5_advance_48 : decode cX5_advance 48 = .ok (.getfield 20, 3) := by decide +kernel
theorem dX5_advance_51 : decode cX5_advance 51 = .ok (.invokevirtual 23, 3) := by decide +kernel
theorem dX5_advance_54 : decode cX5_advance 54 = .ok (.putfield 27, 3) := by decide +kernel
theorem dX5_advance_57 : decode cX5_advance 57 = .ok (.aload_n 0, 1) := by decide +kernel
theorem dX5_advance_58 : decode cX5_advance 58 = .ok (.aload_n 0, 1) := by decide +kernel
theorem dX5_advance_59 : decode cX5_advance 59 = .ok (.getfield 20, 3) := by decide +kernel
theorem dX5_advance_62 : decode cX5_advance 62 = .ok (.iconst 1, 1) := by decide +kernel
theorem dX5_advance_63 : decode cX5_advance 63 = .ok (.iadd, 1) := by decide +kernel
theorem dX5_advance_64 : decode cX5_advance 64 = .ok (.putfield 17, 3) := by decide +kernel
theorem dX5_advance_67 : decode cX5_advance 67 = .ok (.aload_n 0, 1) := by decide +kernel
theorem dX5_advance_68 : decode cX5_advance 68 = .ok (.getfield 27, 3) := by decide +kernel
theorem dX5_advance_71 : decode cX5_advance 71 = .ok (.iconst 2, 1) := by decide +kernel
theorem dX5_advance_72 : decode cX5_advance 72 = .ok (.if_icmp .eq 11, 3) := by decide +kernel
theorem dX5_advance_75 : decode cX5_advance 75 = .ok (.aload_n 0, 1) := by decide +kernel
theorem dX5_advance_76 : decode cX5_advance 76 = .ok (.getfield 27, 3) := by decide +kernel
theorem dX5_advance_79 : decode cX5_advance 79 = .ok (.iconst 3, 1) := by decide +kernel
theorem dX5_advance_80 : decode cX5_advance 80 = .ok (.if_icmp .ne 43, 3) := by decide +kernel
theorem dX5_advance_83 : decode cX5_advance 83 = .ok (.iconst 0, 1) := by decide +kernel
theorem dX5_advance_84 : decode cX5_advance 84 = .ok (.istore_n 1, 1) := by decide +kernel
theorem dX5_advance_85 : decode cX5_advance 85 = .ok (.iload_n 1, 1) := by decide +kernel
theorem dX5_advance_86 : decode cX5_advance 86 = .ok (.sipush 320, 3) := by decide +kernel
theorem dX5_advance_89 : decode cX5_advance 89 = .ok (.if_icmp .ge 34, 3) := by decide +kernel
theorem dX5_advance_92 : decode cX5_advance 92 = .ok (.aload_n 0, 1) := by decide +kernel
theorem dX5_advance_93 : decode cX5_advance 93 = .ok (.aload_n 0, 1) := by decide +kernel
theorem dX5_advance_94 : decode cX5_advance 94 = .ok (.getfield 17, 3) := by decide +kernel
theorem dX5_advance_97 : decode cX5_advance 97 = .ok (.invokevirtual 23, 3) := by decide +kernel
theorem dX5_advance_100 : decode cX5_advance 100 = .ok (.aload_n 0, 1) := by decide +kernel
theorem dX5_advance_101 : decode cX5_advance 101 = .ok (.getfield 27, 3) := by decide +kernel
theorem dX5_advance_104 : decode cX5_advance 104 = .ok (.if_icmp .ne 19, 3) := by decide +kernel
theorem dX5_advance_107 : decode cX5_advance 107 = .ok (.aload_n 0, 1) := by decide +kernel
theorem dX5_advance_108 : decode cX5_advance 108 = .ok (.dup, 1) := by decide +kernel
theorem dX5_advance_109 : decode cX5_advance 109 = .ok (.getfield 17, 3) := by decide +kernel
theorem dX5_advance_112 : decode cX5_advance 112 = .ok (.iconst 1, 1) := by decide +kernel
theorem dX5_advance_113 : decode cX5_advance 113 = .ok (.iadd, 1) := by decide +kernel
theorem dX5_advance_114 : decode cX5_advance 114 = .ok (.putfield 17, 3) := by decide +kernel
theorem dX5_advance_117 : decode cX5_advance 117 = .ok (.iinc 1 1, 3) := by decide +kernel
theorem dX5_advance_120 : decode cX5_advance 120 = .ok (.goto (-35), 3) := by decide +kernel
theorem dX5_advance_123 : decode cX5_advance 123 = .ok (.aload_n 0, 1) := by decide +kernel
theorem dX5_advance_124 : decode cX5_advance 124 = .ok (.getfield 27, 3) := by decide +kernel
theorem dX5_advance_127 : decode cX5_advance 127 = .ok (.iconst 3, 1) := by decide +kernel
theorem dX5_advance_128 : decode cX5_advance 128 = .ok (.if_icmp .ne 7, 3) := by decide +kernel
theorem dX5_advance_131 : decode cX5_advance 131 = .ok (.aload_n 0, 1) := by decide +kernel
theorem dX5_advance_132 : decode cX5_advance 132 = .ok (.invokevirtual 30, 3) := by decide +kernel
theorem dX5_advance_135 : decode cX5_advance 135 = .ok (.return_, 1) := by decide +kernel
theorem dX5_takeNumber_0 : decode cX5_takeNumber 0 = .ok (.aload_n 0, 1) := by decide +kernel
theorem dX5_takeNumber_1 : decode cX5_takeNumber 1 = .ok (.getfield 17, 3) := by decide +kernel
theorem dX5_takeNumber_4 : decode cX5_takeNumber 4 = .ok (.aload_n 0, 1) := by decide +kernel
theorem dX5_takeNumber_5 : decode cX5_takeNumber 5 = .ok (.getfield 20, 3) := by decide +kernel
theorem dX5_takeNumber_8 : decode cX5_takeNumber 8 = .ok (.isub, 1) := by decide +kernel
theorem dX5_takeNumber_9 : decode cX5_takeNumber 9 = .ok (.iconst 3, 1) := by decide +kernel
theorem dX5_takeNumber_10 : decode cX5_takeNumber 10 = .ok (.if_icmp .le 9, 3) := by decide +kernel
theorem dX5_takeNumber_13 : decode cX5_takeNumber 13 = .ok (.aload_n 0, 1) := by decide +kernel
theorem dX5_takeNumber_14 : decode cX5_takeNumber 14 = .ok (.iconst 5, 1) := by decide +kernel
theorem dX5_takeNumber_15 : decode cX5_takeNumber 15 = .ok (.putfield 27, 3) := by decide +kernel
theorem dX5_takeNumber_18 : decode cX5_takeNumber 18 = .ok (.return_, 1) := by decide +kernel
theorem dX5_takeNumber_19 : decode cX5_takeNumber 19 = .ok (.aload_n 0, 1) := by decide +kernel
theorem dX5_takeNumber_20 : decode cX5_takeNumber 20 = .ok (.iconst 0, 1) := by decide +kernel
theorem dX5_takeNumber_21 : decode cX5_takeNumber 21 = .ok (.putfield 33, 3) := by decide +kernel
theorem dX5_takeNumber_24 : decode cX5_takeNumber 24 = .ok (.aload_n 0, 1) := by decide +kernel
theorem dX5_takeNumber_25 : decode cX5_takeNumber 25 = .ok (.getfield 20, 3) := by decide +kernel
theorem dX5_takeNumber_28 : decode cX5_takeNumber 28 = .ok (.istore_n 1, 1) := by decide +kernel
theorem dX5_takeNumber_29 : decode cX5_takeNumber 29 = .ok (.iload_n 1, 1) := by decide +kernel
theorem dX5_takeNumber_30 : decode cX5_takeNumber 30 = .ok (.aload_n 0, 1) := by decide +kernel
theorem dX5_takeNumber_31 : decode cX5_takeNumber 31 = .ok (.getfield 17, 3) := by decide +kernel
theorem dX5_takeNumber_34 : decode cX5_takeNumber 34 = .ok (.if_icmp .ge 29, 3) := by decide +kernel
theorem dX5_takeNumber_37 : decode cX5_takeNumber 37 = .ok (.aload_n 0, 1) := by decide +kernel
theorem dX5_takeNumber_38 : decode cX5_takeNumber 38 = .ok (.bipush 10, 2) := by decide +kernel
theorem dX5_takeNumber_40 : decode cX5_takeNumber 40 = .ok (.aload_n 0, 1) := by decide +kernel
theorem dX5_takeNumber_41 : decode cX5_takeNumber 41 = .ok (.getfield 33, 3) := by decide +kernel
theorem dX5_takeNumber_44 : decode cX5_takeNumber 44 = .ok (.imul, 1) := by decide +kernel
theorem dX5_takeNumber_45 : decode cX5_takeNumber 45 = .ok (.aload_n 0, 1) := by decide +kernel
theorem dX5_takeNumber_46 : decode cX5_takeNumber 46 = .ok (.iload_n 1, 1) := by decide +kernel
theorem dX5_takeNumber_47 : decode cX5_takeNumber 47 = .ok (.invokevirtual 36, 3) := by decide +kernel
theorem dX5_takeNumber_50 : decode cX5_takeNumber 50 = .ok (.iadd, 1) := by decide +kernel
theorem dX5_takeNumber_51 : decode cX5_takeNumber 51 = .ok (.bipush 48, 2) := by decide +kernel
theorem dX5_takeNumber_53 : decode cX5_takeNumber 53 = .ok (.isub, 1) := by decide +kernel
theorem dX5_takeNumber_54 : decode cX5_takeNumber 54 = .ok (.putfield 33, 3) := by decide +kernel
theorem dX5_takeNumber_57 : decode cX5_takeNumber 57 = .ok (.iinc 1 1, 3) := by decide +kernel
theorem dX5_takeNumber_60 : decode cX5_takeNumber 60 = .ok (.goto (-31), 3) := by decide +kernel
theorem dX5_takeNumber_63 : decode cX5_takeNumber 63 = .ok (.return_, 1) := by decide +kernel
theorem dX5_kindAt_0 : decode cX5_kindAt 0 = .ok (.iload_n 1, 1) := by decide +kernel
theorem dX5_kindAt_1 : decode cX5_kindAt 1 = .ok (.aload_n 0, 1) := by decide +kernel
theorem dX5_kindAt_2 : decode cX5_kindAt 2 = .ok (.getfield 13, 3) := by decide +kernel
theorem dX5_kindAt_5 : decode cX5_kindAt 5 = .ok (.if_icmp .lt 5, 3) := by decide +kernel
theorem dX5_kindAt_8 : decode cX5_kindAt 8 = .ok (.iconst 0, 1) := by decide +kernel
theorem dX5_kindAt_9 : decode cX5_kindAt 9 = .ok (.ireturn, 1) := by decide +kernel
theorem dX5_kindAt_10 : decode cX5_kindAt 10 = .ok (.aload_n 0, 1) := by decide +kernel
theorem dX5_kindAt_11 : decode cX5_kindAt 11 = .ok (.iload_n 1, 1) := by decide +kernel
theorem dX5_kindAt_12 : decode cX5_kindAt 12 = .ok (.invokevirtual 36, 3) := by decide +kernel
theorem dX5_kindAt_15 : decode cX5_kindAt 15 = .ok (.istore_n 2, 1) := by decide +kernel
theorem dX5_kindAt_16 : decode cX5_kindAt 16 = .ok (.iload_n 2, 1) := by decide +kernel
theorem dX5_kindAt_17 : decode cX5_kindAt 17 = .ok (.bipush 32, 2) := by decide +kernel
theorem dX5_kindAt_19 : decode cX5_kindAt 19 = .ok (.if_icmp .ne 5, 3) := by decide +kernel
theorem dX5_kindAt_22 : decode cX5_kindAt 22 = .ok (.iconst 1, 1) := by decide +kernel
theorem dX5_kindAt_23 : decode cX5_kindAt 23 = .ok (.ireturn, 1) := by decide +kernel
theorem dX5_kindAt_24 : decode cX5_kindAt 24 = .ok (.iload_n 2, 1) := by decide +kernel
theorem dX5_kindAt_25 : decode cX5_kindAt 25 = .ok (.bipush 59, 2) := by decide +kernel
theorem dX5_kindAt_27 : decode cX5_kindAt 27 = .ok (.if_icmp .ne 5, 3) := by decide +kernel
theorem dX5_kindAt_30 : decode cX5_kindAt 30 = .ok (.iconst 4, 1) := by decide +kernel
theorem dX5_kindAt_31 : decode cX5_kindAt 31 = .ok (.ireturn, 1) := by decide +kernel
theorem dX5_kindAt_32 : decode cX5_kindAt 32 = .ok (.iload_n 2, 1) := by decide +kernel
theorem dX5_kindAt_33 : decode cX5_kindAt 33 = .ok (.bipush 97, 2) := by decide +kernel
theorem dX5_kindAt_35 : decode cX5_kindAt 35 = .ok (.if_icmp .lt 11, 3) := by decide +kernel
theorem dX5_kindAt_38 : decode cX5_kindAt 38 = .ok (.iload_n 2, 1) := by decide +kernel
theorem dX5_kindAt_39 : decode cX5_kindAt 39 = .ok (.bipush 122, 2) := by decide +kernel
theorem dX5_kindAt_41 : decode cX5_kindAt 41 = .ok (.if_icmp .gt 5, 3) := by decide +kernel
theorem dX5_kindAt_44 : decode cX5_kindAt 44 = .ok (.iconst 2, 1) := by decide +kernel
theorem dX5_kindAt_45 : decode cX5_kindAt 45 = .ok (.ireturn, 1) := by decide +kernel
theorem dX5_kindAt_46 : decode cX5_kindAt 46 = .ok (.iload_n 2, 1) := by decide +kernel
theorem dX5_kindAt_47 : decode cX5_kindAt 47 = .ok (.bipush 48, 2) := by decide +kernel
theorem dX5_kindAt_49 : decode cX5_kindAt 49 = .ok (.if_icmp .lt 13, 3) := by decide +kernel
theorem dX5_kindAt_52 : decode cX5_kindAt 52 = .ok (.iload_n 2, 1) := by decide +kernel
theorem dX5_kindAt_53 : decode cX5_kindAt 53 = .ok (.bipush 57, 2) := by decide +kernel
theorem dX5_kindAt_55 : decode cX5_kindAt 55 = .ok (.if_icmp .gt 7, 3) := by decide +kernel
theorem dX5_kindAt_58 : decode cX5_kindAt 58 = .ok (.iconst 3, 1) := by decide +kernel
theorem dX5_kindAt_59 : decode cX5_kindAt 59 = .ok (.goto 4, 3) := by decide +kernel
theorem dX5_kindAt_62 : decode cX5_kindAt 62 = .ok (.iconst 5, 1) := by decide +kernel
theorem dX5_kindAt_63 : decode cX5_kindAt 63 = .ok (.ireturn, 1) := by decide +kernel
theorem dX5_spells_0 : decode cX5_spells 0 = .ok (.aload_n 0, 1) := by decide +kernel
theorem dX5_spells_1 : decode cX5_spells 1 = .ok (.getfield 27, 3) := by decide +kernel
theorem dX5_spells_4 : decode cX5_spells 4 = .ok (.iconst 2, 1) := by decide +kernel
theorem dX5_spells_5 : decode cX5_spells 5 = .ok (.if_icmp .ne 19, 3) := by decide +kernel
theorem dX5_spells_8 : decode cX5_spells 8 = .ok (.aload_n 0, 1) := by decide +kernel
theorem dX5_spells_9 : decode cX5_spells 9 = .ok (.getfield 17, 3) := by decide +kernel
theorem dX5_spells_12 : decode cX5_spells 12 = .ok (.aload_n 0, 1) := by decide +kernel
theorem dX5_spells_13 : decode cX5_spells 13 = .ok (.getfield 20, 3) := by decide +kernel
theorem dX5_spells_16 : decode cX5_spells 16 = .ok (.isub, 1) := by decide +kernel
theorem dX5_spells_17 : decode cX5_spells 17 = .ok (.aload_n 1, 1) := by decide +kernel
theorem dX5_spells_18 : decode cX5_spells 18 = .ok (.invokevirtual 39, 3) := by decide +kernel
theorem dX5_spells_21 : decode cX5_spells 21 = .ok (.if_icmp .eq 5, 3) := by decide +kernel
theorem dX5_spells_24 : decode cX5_spells 24 = .ok (.iconst 0, 1) := by decide +kernel
theorem dX5_spells_25 : decode cX5_spells 25 = .ok (.ireturn, 1) := by decide +kernel
theorem dX5_spells_26 : decode cX5_spells 26 = .ok (.iconst 0, 1) := by decide +kernel
theorem dX5_spells_27 : decode cX5_spells 27 = .ok (.istore_n 2, 1) := by decide +kernel
theorem dX5_spells_28 : decode cX5_spells 28 = .ok (.iload_n 2, 1) := by decide +kernel
theorem dX5_spells_29 : decode cX5_spells 29 = .ok (.aload_n 1, 1) := by decide +kernel
theorem dX5_spells_30 : decode cX5_spells 30 = .ok (.invokevirtual 39, 3) := by decide +kernel
theorem dX5_spells_33 : decode cX5_spells 33 = .ok (.if_icmp .ge 29, 3) := by decide +kernel
theorem dX5_spells_36 : decode cX5_spells 36 = .ok (.aload_n 0, 1) := by decide +kernel
theorem dX5_spells_37 : decode cX5_spells 37 = .ok (.aload_n 0, 1) := by decide +kernel
theorem dX5_spells_38 : decode cX5_spells 38 = .ok (.getfield 20, 3) := by decide +kernel
theorem dX5_spells_41 : decode cX5_spells 41 = .ok (.iload_n 2, 1) := by decide +kernel
theorem dX5_spells_42 : decode cX5_spells 42 = .ok (.iadd, 1) := by decide +kernel
theorem dX5_spells_43 : decode cX5_spells 43 = .ok (.invokevirtual 36, 3) := by decide +kernel
theorem dX5_spells_46 : decode cX5_spells 46 = .ok (.aload_n 1, 1) := by decide +kernel
theorem dX5_spells_47 : decode cX5_spells 47 = .ok (.iload_n 2, 1) := by decide +kernel
theorem dX5_spells_48 : decode cX5_spells 48 = .ok (.invokevirtual 44, 3) := by decide +kernel
theorem dX5_spells_51 : decode cX5_spells 51 = .ok (.if_icmp .eq 5, 3) := by decide +kernel
theorem dX5_spells_54 : decode cX5_spells 54 = .ok (.iconst 0, 1) := by decide +kernel
theorem dX5_spells_55 : decode cX5_spells 55 = .ok (.ireturn, 1) := by decide +kernel
theorem dX5_spells_56 : decode cX5_spells 56 = .ok (.iinc 2 1, 3) := by decide +kernel
theorem dX5_spells_59 : decode cX5_spells 59 = .ok (.goto (-31), 3) := by decide +kernel
theorem dX5_spells_62 : decode cX5_spells 62 = .ok (.iconst 1, 1) := by decide +kernel
theorem dX5_spells_63 : decode cX5_spells 63 = .ok (.ireturn, 1) := by decide +kernel
end
section
theorem dX7_init_0 : decode cX7_init 0 = .ok (.aload_n 0, 1) := by decide +kernel
theorem dX7_init_1 : decode cX7_init 1 = .ok (.invokespecial 1, 3) := by decide +kernel
theorem dX7_init_4 : decode cX7_init 4 = .ok (.aload_n 0, 1) := by decide +kernel
theorem dX7_init_5 : decode cX7_init 5 = .ok (.new 7, 3) := by decide +kernel
theorem dX7_init_8 : decode cX7_init 8 = .ok (.dup, 1) := by decide +kernel
theorem dX7_init_9 : decode cX7_init 9 = .ok (.invokespecial 9, 3) := by decide +kernel
theorem dX7_init_12 : decode cX7_init 12 = .ok (.putfield 10, 3) := by decide +kernel
theorem dX7_init_15 : decode cX7_init 15 = .ok (.aload_n 0, 1) := by decide +kernel
theorem dX7_init_16 : decode cX7_init 16 = .ok (.new 16, 3) := by decide +kernel
theorem dX7_init_19 : decode cX7_init 19 = .ok (.dup, 1) := by decide +kernel
theorem dX7_init_20 : decode cX7_init 20 = .ok (.invokespecial 18, 3) := by decide +kernel
theorem dX7_init_23 : decode cX7_init 23 = .ok (.putfield 19, 3) := by decide +kernel
theorem dX7_init_26 : decode cX7_init 26 = .ok (.aload_n 0, 1) := by decide +kernel
theorem dX7_init_27 : decode cX7_init 27 = .ok (.new 23, 3) := by decide +kernel
theorem dX7_init_30 : decode cX7_init 30 = .ok (.dup, 1) := by decide +kernel
theorem dX7_init_31 : decode cX7_init 31 = .ok (.invokespecial 25, 3) := by decide +kernel
theorem dX7_init_34 : decode cX7_init 34 = .ok (.putfield 26, 3) := by decide +kernel
theorem dX7_init_37 : decode cX7_init 37 = .ok (.aload_n 0, 1) := by decide +kernel
theorem dX7_init_38 : decode cX7_init 38 = .ok (.new 23, 3) := by decide +kernel
theorem dX7_init_41 : decode cX7_init 41 = .ok (.dup, 1) := by decide +kernel
theorem dX7_init_42 : decode cX7_init 42 = .ok (.invokespecial 25, 3) := by decide +kernel
theorem dX7_init_45 : decode cX7_init 45 = .ok (.putfield 30, 3) := by decide +kernel
theorem dX7_init_48 : decode cX7_init 48 = .ok (.aload_n 0, 1) := by decide +kernel
theorem dX7_init_49 : decode cX7_init 49 = .ok (.new 33, 3) := by decide +kernel
theorem dX7_init_52 : decode cX7_init 52 = .ok (.dup, 1) := by decide +kernel
theorem dX7_init_53 : decode cX7_init 53 = .ok (.invokespecial 35, 3) := by decide +kernel
theorem dX7_init_56 : decode cX7_init 56 = .ok (.putfield 36, 3) := by decide +kernel
theorem dX7_init_59 : decode cX7_init 59 = .ok (.aload_n 0, 1) := by decide +kernel
theorem dX7_init_60 : decode cX7_init 60 = .ok (.iconst 2, 1) := by decide +kernel
theorem dX7_init_61 : decode cX7_init 61 = .ok (.anewarray 40, 3) := by decide +kernel
theorem dX7_init_64 : decode cX7_init 64 = .ok (.dup, 1) := by decide +kernel
theorem dX7_init_65 : decode cX7_init 65 = .ok (.iconst 0, 1) := by decide +kernel
theorem dX7_init_66 : decode cX7_init 66 = .ok (.new 40, 3) := by decide +kernel
theorem dX7_init_69 : decode cX7_init 69 = .ok (.dup, 1) := by decide +kernel
theorem dX7_init_70 : decode cX7_init 70 = .ok (.invokespecial 42, 3) := by decide +kernel
theorem dX7_init_73 : decode cX7_init 73 = .ok (.aastore, 1) := by decide +kernel
theorem dX7_init_74 : decode cX7_init 74 = .ok (.dup, 1) := by decide +kernel
theorem dX7_init_75 : decode cX7_init 75 = .ok (.iconst 1, 1) := by decide +kernel
theorem dX7_init_76 : decode cX7_init 76 = .ok (.new 40, 3) := by decide +kernel
theorem dX7_init_79 : decode cX7_init 79 = .ok (.dup, 1) := by decide +kernel
theorem dX7_init_80 : decode cX7_init 80 = .ok (.invokespecial 42, 3) := by decide +kernel
theorem dX7_init_83 : decode cX7_init 83 = .ok (.aastore, 1) := by decide +kernel
theorem dX7_init_84 : decode cX7_init 84 = .ok (.putfield 43, 3) := by decide +kernel
theorem dX7_init_87 : decode cX7_init 87 = .ok (.aload_n 0, 1) := by decide +kernel
theorem dX7_init_88 : decode cX7_init 88 = .ok (.iconst 4, 1) := by decide +kernel
theorem dX7_init_89 : decode cX7_init 89 = .ok (.anewarray 47, 3) := by decide +kernel
theorem dX7_init_92 : decode cX7_init 92 = .ok (.dup, 1) := by decide +kernel
theorem dX7_init_93 : decode cX7_init 93 = .ok (.iconst 0, 1) := by decide +kernel
theorem dX7_init_94 : decode cX7_init 94 = .ok (.new 47, 3) := by decide +kernel
theorem dX7_init_97 : decode cX7_init 97 = .ok (.dup, 1) := by decide +kernel
theorem dX7_init_98 : decode cX7_init 98 = .ok (.invokespecial 49, 3) := by decide +kernel
theorem dX7_init_101 : decode cX7_init 101 = .ok (.aastore, 1) := by decide +kernel
theorem dX7_init_102 : decode cX7_init 102 = .ok (.dup, 1) := by decide +kernel
theorem dX7_init_103 : decode cX7_init 103 = .ok (.iconst 1, 1) := by decide +kernel
theorem dX7_init_104 : decode cX7_init 104 = .ok (.new 47, 3) := by decide +kernel
theorem dX7_init_107 : decode cX7_init 107 = .ok (.dup, 1) := by decide +kernel
theorem dX7_init_108 : decode cX7_init 108 = .ok (.invokespecial 49, 3) := by decide +kernel
theorem dX7_init_111 : decode cX7_init 111 = .ok (.aastore, 1) := by decide +kernel
theorem dX7_init_112 : decode cX7_init 112 = .ok (.dup, 1) := by decide +kernel
theorem dX7_init_113 : decode cX7_init 113 = .ok (.iconst 2, 1) := by decide +kernel
theorem dX7_init_114 : decode cX7_init 114 = .ok (.new 47, 3) := by decide +kernel
theorem dX7_init_117 : decode cX7_init 117 = .ok (.dup, 1) := by decide +kernel
theorem dX7_init_118 : decode cX7_init 118 = .ok (.invokespecial 49, 3) := by decide +kernel
theorem dX7_init_121 : decode cX7_init 121 = .ok (.aastore, 1) := by decide +kernel
theorem dX7_init_122 : decode cX7_init 122 = .ok (.dup, 1) := by decide +kernel
theorem dX7_init_123 : decode cX7_init 123 = .ok (.iconst 3, 1) := by decide +kernel
theorem dX7_init_124 : decode cX7_init 124 = .ok (.new 47, 3) := by decide +kernel
theorem dX7_init_127 : decode cX7_init 127 = .ok (.dup, 1) := by decide +kernel
theorem dX7_init_128 : decode cX7_init 128 = .ok (.invokespecial 49, 3) := by decide +kernel
theorem dX7_init_131 : decode cX7_init 131 = .ok (.aastore, 1) := by decide +kernel
theorem dX7_init_132 : decode cX7_init 132 = .ok (.putfield 50, 3) := by decide +kernel
theorem dX7_init_135 : decode cX7_init 135 = .ok (.aload_n 0, 1) := by decide +kernel
theorem dX7_init_136 : decode cX7_init 136 = .ok (.bipush 8, 2) := by decide +kernel
theorem dX7_init_138 : decode cX7_init 138 = .ok (.newarray .int, 2) := by decide +kernel
theorem dX7_init_140 : decode cX7_init 140 = .ok (.putfield 54, 3) := by decide +kernel
theorem dX7_init_143 : decode cX7_init 143 = .ok (.aload_n 0, 1) := by decide +kernel
theorem dX7_init_144 : decode cX7_init 144 = .ok (.bipush 8, 2) := by decide +kernel
theorem dX7_init_146 : decode cX7_init 146 = .ok (.newarray .int, 2) := by decide +kernel
theorem dX7_init_148 : decode cX7_init 148 = .ok (.putfield 58, 3) := by decide +kernel
theorem dX7_init_151 : decode cX7_init 151 = .ok (.aload_n 0, 1) := by decide +kernel
theorem dX7_init_152 : decode cX7_init 152 = .ok (.bipush 7, 2) := by decide +kernel
theorem dX7_init_154 : decode cX7_init 154 = .ok (.newarray .int, 2) := by decide +kernel
theorem dX7_init_156 : decode cX7_init 156 = .ok (.putfield 61, 3) := by decide +kernel
theorem dX7_init_159 : decode cX7_init 159 = .ok (.aload_n 0, 1) := by decide +kernel
theorem dX7_init_160 : decode cX7_init 160 = .ok (.getfield 26, 3) := by decide +kernel
theorem dX7_init_163 : decode cX7_init 163 = .ok (.aload_n 0, 1) := by decide +kernel
theorem dX7_init_164 : decode cX7_init 164 = .ok (.getfield 10, 3) := by decide +kernel
theorem dX7_init_167 : decode cX7_init 167 = .ok (.invokevirtual 64, 3) := by decide +kernel
theorem dX7_init_170 : decode cX7_init 170 = .ok (.putfield 68, 3) := by decide +kernel
theorem dX7_init_173 : decode cX7_init 173 = .ok (.return_, 1) := by decide +kernel
theorem dX7_feed_0 : decode cX7_feed 0 = .ok (.aload_n 0, 1) := by decide +kernel
theorem dX7_feed_1 : decode cX7_feed 1 = .ok (.getfield 19, 3) := by decide +kernel
theorem dX7_feed_4 : decode cX7_feed 4 = .ok (.getfield 72, 3) := by decide +kernel
theorem dX7_feed_7 : decode cX7_feed 7 = .ok (.lload_n 1, 1) := by decide +kernel
theorem dX7_feed_8 : decode cX7_feed 8 = .ok (.invokevirtual 76, 3) := by decide +kernel
theorem dX7_feed_11 : decode cX7_feed 11 = .ok (.ifCond .eq 16, 3) := by decide +kernel
theorem dX7_feed_14 : decode cX7_feed 14 = .ok (.aload_n 0, 1) := by decide +kernel
theorem dX7_feed_15 : decode cX7_feed 15 = .ok (.getfield 19, 3) := by decide +kernel
theorem dX7_feed_18 : decode cX7_feed 18 = .ok (.getfield 72, 3) := by decide +kernel
theorem dX7_feed_21 : decode cX7_feed 21 = .ok (.getfield 82, 3) := by decide +kernel
theorem dX7_feed_24 : decode cX7_feed 24 = .ok (.goto 5, 3) := by decide +kernel
theorem dX7_feed_27 : decode cX7_feed 27 = .ok (.bipush (-3), 2) := by decide +kernel
theorem dX7_feed_29 : decode cX7_feed 29 = .ok (.ireturn, 1) := by decide +kernel
theorem dX7_end_0 : decode cX7_end 0 = .ok (.iload_n 1, 1) := by decide +kernel
theorem dX7_end_1 : decode cX7_end 1 = .ok (.iconst 0, 1) := by decide +kernel
theorem dX7_end_2 : decode cX7_end 2 = .ok (.aload_n 0, 1) := by decide +kernel
theorem dX7_end_3 : decode cX7_end 3 = .ok (.getfield 19, 3) := by decide +kernel
theorem dX7_end_6 : decode cX7_end 6 = .ok (.getfield 72, 3) := by decide +kernel
theorem dX7_end_9 : decode cX7_end 9 = .ok (.getfield 82, 3) := by decide +kernel
theorem dX7_end_12 : decode cX7_end 12 = .ok (.invokestatic 85, 3) := by decide +kernel
theorem dX7_end_15 : decode cX7_end 15 = .ok (.ifCond .eq 5, 3) := by decide +kernel
theorem dX7_end_18 : decode cX7_end 18 = .ok (.iconst (-1), 1) := by decide +kernel
theorem dX7_end_19 : decode cX7_end 19 = .ok (.ireturn, 1) := by decide +kernel
theorem dX7_end_20 : decode cX7_end 20 = .ok (.aload_n 0, 1) := by decide +kernel
theorem dX7_end_21 : decode cX7_end 21 = .ok (.getfield 19, 3) := by decide +kernel
theorem dX7_end_24 : decode cX7_end 24 = .ok (.getfield 72, 3) := by decide +kernel
theorem dX7_end_27 : decode cX7_end 27 = .ok (.getfield 82, 3) := by decide +kernel
theorem dX7_end_30 : decode cX7_end 30 = .ok (.istore_n 2, 1) := by decide +kernel
theorem dX7_end_31 : decode cX7_end 31 = .ok (.aload_n 0, 1) := by decide +kernel
theorem dX7_end_32 : decode cX7_end 32 = .ok (.getfield 19, 3) := by decide +kernel
theorem dX7_end_35 : decode cX7_end 35 = .ok (.getfield 72, 3) := by decide +kernel
theorem dX7_end_38 : decode cX7_end 38 = .ok (.iload_n 1, 1) := by decide +kernel
theorem dX7_end_39 : decode cX7_end 39 = .ok (.putfield 82, 3) := by decide +kernel
theorem dX7_end_42 : decode cX7_end 42 = .ok (.iload_n 2, 1) := by decide +kernel
theorem dX7_end_43 : decode cX7_end 43 = .ok (.ireturn, 1) := by decide +kernel
theorem dX7_dairy_0 : decode cX7_dairy 0 = .ok (.aload_n 0, 1) := by decide +kernel
theorem dX7_dairy_1 : decode cX7_dairy 1 = .ok (.getfield 19, 3) := by decide +kernel
theorem dX7_dairy_4 : decode cX7_dairy 4 = .ok (.invokevirtual 89, 3) := by decide +kernel
theorem dX7_dairy_7 : decode cX7_dairy 7 = .ok (.istore_n 1, 1) := by decide +kernel
theorem dX7_dairy_8 : decode cX7_dairy 8 = .ok (.aload_n 0, 1) := by decide +kernel
theorem dX7_dairy_9 : decode cX7_dairy 9 = .ok (.getfield 19, 3) := by decide +kernel
theorem dX7_dairy_12 : decode cX7_dairy 12 = .ok (.getfield 72, 3) := by decide +kernel
theorem dX7_dairy_15 : decode cX7_dairy 15 = .ok (.iconst 0, 1) := by decide +kernel
theorem dX7_dairy_16 : decode cX7_dairy 16 = .ok (.putfield 82, 3) := by decide +kernel
theorem dX7_dairy_19 : decode cX7_dairy 19 = .ok (.aload_n 0, 1) := by decide +kernel
theorem dX7_dairy_20 : decode cX7_dairy 20 = .ok (.getfield 19, 3) := by decide +kernel
theorem dX7_dairy_23 : decode cX7_dairy 23 = .ok (.getfield 92, 3) := by decide +kernel
theorem dX7_dairy_26 : decode cX7_dairy 26 = .ok (.ifCond .eq 14, 3) := by decide +kernel
theorem dX7_dairy_29 : decode cX7_dairy 29 = .ok (.bipush (-10), 2) := by decide +kernel
theorem dX7_dairy_31 : decode cX7_dairy 31 = .ok (.aload_n 0, 1) := by decide +kernel
theorem dX7_dairy_32 : decode cX7_dairy 32 = .ok (.getfield 19, 3) := by decide +kernel
theorem dX7_dairy_35 : decode cX7_dairy 35 = .ok (.getfield 95, 3) := by decide +kernel
theorem dX7_dairy_38 : decode cX7_dairy 38 = .ok (.isub, 1) := by decide +kernel
theorem dX7_dairy_39 : decode cX7_dairy 39 = .ok (.ireturn, 1) := by decide +kernel
theorem dX7_dairy_40 : decode cX7_dairy 40 = .ok (.aload_n 0, 1) := by decide +kernel
theorem dX7_dairy_41 : decode cX7_dairy 41 = .ok (.getfield 10, 3) := by decide +kernel
theorem dX7_dairy_44 : decode cX7_dairy 44 = .ok (.aload_n 0, 1) := by decide +kernel
theorem dX7_dairy_45 : decode cX7_dairy 45 = .ok (.getfield 19, 3) := by decide +kernel
theorem dX7_dairy_48 : decode cX7_dairy 48 = .ok (.getfield 98, 3) := by decide +kernel
theorem dX7_dairy_51 : decode cX7_dairy 51 = .ok (.invokevirtual 101, 3) := by decide +kernel
theorem dX7_dairy_54 : decode cX7_dairy 54 = .ok (.aload_n 0, 1) := by decide +kernel
theorem dX7_dairy_55 : decode cX7_dairy 55 = .ok (.getfield 26, 3) := by decide +kernel
theorem dX7_dairy_58 : decode cX7_dairy 58 = .ok (.aload_n 0, 1) := by decide +kernel
theorem dX7_dairy_59 : decode cX7_dairy 59 = .ok (.getfield 10, 3) := by decide +kernel
theorem dX7_dairy_62 : decode cX7_dairy 62 = .ok (.aload_n 0, 1) := by decide +kernel
theorem dX7_dairy_63 : decode cX7_dairy 63 = .ok (.getfield 10, 3) := by decide +kernel
theorem dX7_dairy_66 : decode cX7_dairy 66 = .ok (.invokevirtual 105, 3) := by decide +kernel
theorem dX7_dairy_69 : decode cX7_dairy 69 = .ok (.aload_n 0, 1) := by decide +kernel
theorem dX7_dairy_70 : decode cX7_dairy 70 = .ok (.getfield 10, 3) := by decide +kernel
theorem dX7_dairy_73 : decode cX7_dairy 73 = .ok (.invokevirtual 64, 3) := by decide +kernel
theorem dX7_dairy_76 : decode cX7_dairy 76 = .ok (.invokevirtual 108, 3) := by decide +kernel
theorem dX7_dairy_79 : decode cX7_dairy 79 = .ok (.aload_n 0, 1) := by decide +kernel
theorem dX7_dairy_80 : decode cX7_dairy 80 = .ok (.iconst 0, 1) := by decide +kernel
theorem dX7_dairy_81 : decode cX7_dairy 81 = .ok (.putfield 112, 3) := by decide +kernel
theorem dX7_dairy_84 : decode cX7_dairy 84 = .ok (.aload_n 0, 1) := by decide +kernel
theorem dX7_dairy_85 : decode cX7_dairy 85 = .ok (.getfield 43, 3) := by decide +kernel
theorem dX7_dairy_88 : decode cX7_dairy 88 = .ok (.astore_n 2, 1) := by decide +kernel
theorem dX7_dairy_89 : decode cX7_dairy 89 = .ok (.aload_n 2, 1) := by decide +kernel
theorem dX7_dairy_90 : decode cX7_dairy 90 = .ok (.arraylength, 1) := by decide +kernel
theorem dX7_dairy_91 : decode cX7_dairy 91 = .ok (.istore_n 3, 1) := by decide +kernel
theorem dX7_dairy_92 : decode cX7_dairy 92 = .ok (.iconst 0, 1) := by decide +kernel
theorem dX7_dairy_93 : decode cX7_dairy 93 = .ok (.istore 4, 2) := by decide +kernel
theorem dX7_dairy_95 : decode cX7_dairy 95 = .ok (.iload 4, 2) := by decide +kernel
theorem dX7_dairy_97 : decode cX7_dairy 97 = .ok (.iload_n 3, 1) := by decide +kernel
theorem dX7_dairy_98 : decode cX7_dairy 98 = .ok (.if_icmp .ge 21, 3) := by decide +kernel
theorem dX7_dairy_101 : decode cX7_dairy 101 = .ok (.aload_n 2, 1) := by decide +kernel
theorem dX7_dairy_102 : decode cX7_dairy 102 = .ok (.iload 4, 2) := by decide +kernel
theorem dX7_dairy_104 : decode cX7_dairy 104 = .ok (.aaload, 1) := by decide +kernel
theorem dX7_dairy_105 : decode cX7_dairy 105 = .ok (.astore 5, 2) := by decide +kernel
theorem dX7_dairy_107 : decode cX7_dairy 107 = .ok (.aload 5, 2) := by decide +kernel
theorem dX7_dairy_109 : decode cX7_dairy 109 = .ok (.iconst 0, 1) := by decide +kernel
theorem dX7_dairy_110 : decode cX7_dairy 110 = .ok (.putfield 115, 3) := by decide +kernel
theorem dX7_dairy_113 : decode cX7_dairy 113 = .ok (.iinc 4 1, 3) := by decide +kernel
theorem dX7_dairy_116 : decode cX7_dairy 116 = .ok (.goto (-21), 3) := by decide +kernel
theorem dX7_dairy_119 : decode cX7_dairy 119 = .ok (.iload_n 1, 1) := by decide +kernel
theorem dX7_dairy_120 : decode cX7_dairy 120 = .ok (.ireturn, 1) := by decide +kernel
theorem dX7_fault_0 : decode cX7_fault 0 = .ok (.aload_n 0, 1) := by decide +kernel
theorem dX7_fault_1 : decode cX7_fault 1 = .ok (.getfield 19, 3) := by decide +kernel
theorem dX7_fault_4 : decode cX7_fault 4 = .ok (.getfield 92, 3) := by decide +kernel
theorem dX7_fault_7 : decode cX7_fault 7 = .ok (.ireturn, 1) := by decide +kernel
theorem dX7_rule_0 : decode cX7_rule 0 = .ok (.iload_n 1, 1) := by decide +kernel
theorem dX7_rule_1 : decode cX7_rule 1 = .ok (.ifCond .lt 25, 3) := by decide +kernel
theorem dX7_rule_4 : decode cX7_rule 4 = .ok (.iload_n 1, 1) := by decide +kernel
theorem dX7_rule_5 : decode cX7_rule 5 = .ok (.aload_n 0, 1) := by decide +kernel
theorem dX7_rule_6 : decode cX7_rule 6 = .ok (.getfield 10, 3) := by decide +kernel
theorem dX7_rule_9 : decode cX7_rule 9 = .ok (.getfield 119, 3) := by decide +kernel
theorem dX7_rule_12 : decode cX7_rule 12 = .ok (.arraylength, 1) := by decide +kernel
theorem dX7_rule_13 : decode cX7_rule 13 = .ok (.if_icmp .ge 13, 3) := by decide +kernel
theorem dX7_rule_16 : decode cX7_rule 16 = .ok (.aload_n 0, 1) := by decide +kernel
theorem dX7_rule_17 : decode cX7_rule 17 = .ok (.getfield 10, 3) := by decide +kernel
theorem dX7_rule_20 : decode cX7_rule 20 = .ok (.getfield 119, 3) := by decide +kernel
theorem dX7_rule_23 : decode cX7_rule 23 = .ok (.iload_n 1, 1) := by decide +kernel
theorem dX7_rule_24 : decode cX7_rule 24 = .ok (.iaload, 1) := by decide +kernel
theorem dX7_rule_25 : decode cX7_rule 25 = .ok (.ireturn, 1) := by decide +kernel
theorem dX7_rule_26 : decode cX7_rule 26 = .ok (.iload_n 1, 1) := by decide +kernel
theorem dX7_rule_27 : decode cX7_rule 27 = .ok (.bipush 10, 2) := by decide +kernel
theorem dX7_rule_29 : decode cX7_rule 29 = .ok (.if_icmp .lt 31, 3) := by decide +kernel
theorem dX7_rule_32 : decode cX7_rule 32 = .ok (.iload_n 1, 1) := by decide +kernel
theorem dX7_rule_33 : decode cX7_rule 33 = .ok (.bipush 10, 2) := by decide +kernel
theorem dX7_rule_35 : decode cX7_rule 35 = .ok (.isub, 1) := by decide +kernel
theorem dX7_rule_36 : decode cX7_rule 36 = .ok (.aload_n 0, 1) := by decide +kernel
theorem dX7_rule_37 : decode cX7_rule 37 = .ok (.getfield 10, 3) := by decide +kernel
theorem dX7_rule_40 : decode cX7_rule 40 = .ok (.getfield 122, 3) := by decide +kernel
theorem dX7_rule_43 : decode cX7_rule 43 = .ok (.arraylength, 1) := by decide +kernel
theorem dX7_rule_44 : decode cX7_rule 44 = .ok (.if_icmp .ge 16, 3) := by decide +kernel
theorem dX7_rule_47 : decode cX7_rule 47 = .ok (.aload_n 0, 1) := by decide +kernel
theorem dX7_rule_48 : decode cX7_rule 48 = .ok (.getfield 10, 3) := by decide +kernel
theorem dX7_rule_51 : decode cX7_rule 51 = .ok (.getfield 122, 3) := by decide +kernel
theorem dX7_rule_54 : decode cX7_rule 54 = .ok (.iload_n 1, 1) := by decide +kernel
theorem dX7_rule_55 : decode cX7_rule 55 = .ok (.bipush 10, 2) := by decide +kernel
theorem dX7_rule_57 : decode cX7_rule 57 = .ok (.isub, 1) := by decide +kernel
theorem dX7_rule_58 : decode cX7_rule 58 = .ok (.iaload, 1) := by decide +kernel
theorem dX7_rule_59 : decode cX7_rule 59 = .ok (.ireturn, 1) := by decide +kernel
theorem dX7_rule_60 : decode cX7_rule 60 = .ok (.iconst (-1), 1) := by decide +kernel
theorem dX7_rule_61 : decode cX7_rule 61 = .ok (.ireturn, 1) := by decide +kernel
theorem dX7_cow_0 : decode cX7_cow 0 = .ok (.aload_n 0, 1) := by decide +kernel
theorem dX7_cow_1 : decode cX7_cow 1 = .ok (.getfield 10, 3) := by decide +kernel
theorem dX7_cow_4 : decode cX7_cow 4 = .ok (.iload_n 1, 1) := by decide +kernel
theorem dX7_cow_5 : decode cX7_cow 5 = .ok (.invokevirtual 125, 3) := by decide +kernel
theorem dX7_cow_8 : decode cX7_cow 8 = .ok (.ifCond .eq 12, 3) := by decide +kernel
theorem dX7_cow_11 : decode cX7_cow 11 = .ok (.iload_n 2, 1) := by decide +kernel
theorem dX7_cow_12 : decode cX7_cow 12 = .ok (.iconst 0, 1) := by decide +kernel
theorem dX7_cow_13 : decode cX7_cow 13 = .ok (.iconst 1, 1) := by decide +kernel
theorem dX7_cow_14 : decode cX7_cow 14 = .ok (.invokestatic 85, 3) := by decide +kernel
theorem dX7_cow_17 : decode cX7_cow 17 = .ok (.ifCond .eq 5, 3) := by decide +kernel
theorem dX7_cow_20 : decode cX7_cow 20 = .ok (.iconst (-1), 1) := by decide +kernel
theorem dX7_cow_21 : decode cX7_cow 21 = .ok (.ireturn, 1) := by decide +kernel
theorem dX7_cow_22 : decode cX7_cow 22 = .ok (.iload_n 2, 1) := by decide +kernel
theorem dX7_cow_23 : decode cX7_cow 23 = .ok (.ifCond .ne 15, 3) := by decide +kernel
theorem dX7_cow_26 : decode cX7_cow 26 = .ok (.aload_n 0, 1) := by decide +kernel
theorem dX7_cow_27 : decode cX7_cow 27 = .ok (.getfield 10, 3) := by decide +kernel
theorem dX7_cow_30 : decode cX7_cow 30 = .ok (.getfield 129, 3) := by decide +kernel
theorem dX7_cow_33 : decode cX7_cow 33 = .ok (.iload_n 1, 1) := by decide +kernel
theorem dX7_cow_34 : decode cX7_cow 34 = .ok (.iaload, 1) := by decide +kernel
theorem dX7_cow_35 : decode cX7_cow 35 = .ok (.goto 12, 3) := by decide +kernel
theorem dX7_cow_38 : decode cX7_cow 38 = .ok (.aload_n 0, 1) := by decide +kernel
theorem dX7_cow_39 : decode cX7_cow 39 = .ok (.getfield 10, 3) := by decide +kernel
theorem dX7_cow_42 : decode cX7_cow 42 = .ok (.getfield 132, 3) := by decide +kernel
theorem dX7_cow_45 : decode cX7_cow 45 = .ok (.iload_n 1, 1) := by decide +kernel
theorem dX7_cow_46 : decode cX7_cow 46 = .ok (.iaload, 1) := by decide +kernel
theorem dX7_cow_47 : decode cX7_cow 47 = .ok (.ireturn, 1) := by decide +kernel
theorem dX7_feeds_0 : decode cX7_feeds 0 = .ok (.aload_n 0, 1) := by decide +kernel
theorem dX7_feeds_1 : decode cX7_feeds 1 = .ok (.getfield 10, 3) := by decide +kernel
theorem dX7_feeds_4 : decode cX7_feeds 4 = .ok (.iload_n 1, 1) := by decide +kernel
theorem dX7_feeds_5 : decode cX7_feeds 5 = .ok (.invokevirtual 125, 3) := by decide +kernel
theorem dX7_feeds_8 : decode cX7_feeds 8 = .ok (.ifCond .eq 13, 3) := by decide +kernel
theorem dX7_feeds_11 : decode cX7_feeds 11 = .ok (.iload_n 2, 1) := by decide +kernel
theorem dX7_feeds_12 : decode cX7_feeds 12 = .ok (.iconst 0, 1) := by decide +kernel
theorem dX7_feeds_13 : decode cX7_feeds 13 = .ok (.bipush 100, 2) := by decide +kernel
theorem dX7_feeds_15 : decode cX7_feeds 15 = .ok (.invokestatic 85, 3) := by decide +kernel
theorem dX7_feeds_18 : decode cX7_feeds 18 = .ok (.ifCond .eq 5, 3) := by decide +kernel
theorem dX7_feeds_21 : decode cX7_feeds 21 = .ok (.iconst (-1), 1) := by decide +kernel
theorem dX7_feeds_22 : decode cX7_feeds 22 = .ok (.ireturn, 1) := by decide +kernel
theorem dX7_feeds_23 : decode cX7_feeds 23 = .ok (.aload_n 0, 1) := by decide +kernel
theorem dX7_feeds_24 : decode cX7_feeds 24 = .ok (.getfield 10, 3) := by decide +kernel
theorem dX7_feeds_27 : decode cX7_feeds 27 = .ok (.getfield 132, 3) := by decide +kernel
theorem dX7_feeds_30 : decode cX7_feeds 30 = .ok (.iload_n 1, 1) := by decide +kernel
theorem dX7_feeds_31 : decode cX7_feeds 31 = .ok (.iaload, 1) := by decide +kernel
theorem dX7_feeds_32 : decode cX7_feeds 32 = .ok (.istore_n 3, 1) := by decide +kernel
theorem dX7_feeds_33 : decode cX7_feeds 33 = .ok (.aload_n 0, 1) := by decide +kernel
theorem dX7_feeds_34 : decode cX7_feeds 34 = .ok (.getfield 10, 3) := by decide +kernel
theorem dX7_feeds_37 : decode cX7_feeds 37 = .ok (.getfield 132, 3) := by decide +kernel
theorem dX7_feeds_40 : decode cX7_feeds 40 = .ok (.iload_n 1, 1) := by decide +kernel
theorem dX7_feeds_41 : decode cX7_feeds 41 = .ok (.iload_n 2, 1) := by decide +kernel
theorem dX7_feeds_42 : decode cX7_feeds 42 = .ok (.iastore, 1) := by decide +kernel
theorem dX7_feeds_43 : decode cX7_feeds 43 = .ok (.iload_n 3, 1) := by decide +kernel
theorem dX7_feeds_44 : decode cX7_feeds 44 = .ok (.ireturn, 1) := by decide +kernel
theorem dX7_fill_0 : decode cX7_fill 0 = .ok (.aload_n 0, 1) := by decide +kernel
theorem dX7_fill_1 : decode cX7_fill 1 = .ok (.getfield 10, 3) := by decide +kernel
theorem dX7_fill_4 : decode cX7_fill 4 = .ok (.iload_n 1, 1) := by decide +kernel
theorem dX7_fill_5 : decode cX7_fill 5 = .ok (.invokevirtual 135, 3) := by decide +kernel
theorem dX7_fill_8 : decode cX7_fill 8 = .ok (.ifCond .eq 14, 3) := by decide +kernel
theorem dX7_fill_11 : decode cX7_fill 11 = .ok (.iload_n 2, 1) := by decide +kernel
theorem dX7_fill_12 : decode cX7_fill 12 = .ok (.iconst 0, 1) := by decide +kernel
theorem dX7_fill_13 : decode cX7_fill 13 = .ok (.sipush 400, 3) := by decide +kernel
theorem dX7_fill_16 : decode cX7_fill 16 = .ok (.invokestatic 85, 3) := by decide +kernel
theorem dX7_fill_19 : decode cX7_fill 19 = .ok (.ifCond .eq 5, 3) := by decide +kernel
theorem dX7_fill_22 : decode cX7_fill 22 = .ok (.iconst (-1), 1) := by decide +kernel
theorem dX7_fill_23 : decode cX7_fill 23 = .ok (.ireturn, 1) := by decide +kernel
theorem dX7_fill_24 : decode cX7_fill 24 = .ok (.aload_n 0, 1) := by decide +kernel
theorem dX7_fill_25 : decode cX7_fill 25 = .ok (.getfield 26, 3) := by decide +kernel
theorem dX7_fill_28 : decode cX7_fill 28 = .ok (.aload_n 0, 1) := by decide +kernel
theorem dX7_fill_29 : decode cX7_fill 29 = .ok (.getfield 10, 3) := by decide +kernel
theorem dX7_fill_32 : decode cX7_fill 32 = .ok (.iload_n 1, 1) := by decide +kernel
theorem dX7_fill_33 : decode cX7_fill 33 = .ok (.iload_n 2, 1) := by decide +kernel
theorem dX7_fill_34 : decode cX7_fill 34 = .ok (.invokevirtual 108, 3) := by decide +kernel
theorem dX7_fill_37 : decode cX7_fill 37 = .ok (.aload_n 0, 1) := by decide +kernel
theorem dX7_fill_38 : decode cX7_fill 38 = .ok (.getfield 26, 3) := by decide +kernel
theorem dX7_fill_41 : decode cX7_fill 41 = .ok (.getfield 138, 3) := by decide +kernel
theorem dX7_fill_44 : decode cX7_fill 44 = .ok (.ireturn, 1) := by decide +kernel
theorem dX7_turn_0 : decode cX7_turn 0 = .ok (.iload_n 1, 1) := by decide +kernel
theorem dX7_turn_1 : decode cX7_turn 1 = .ok (.iload_n 2, 1) := by decide +kernel
theorem dX7_turn_2 : decode cX7_turn 2 = .ok (.invokestatic 140, 3) := by decide +kernel
theorem dX7_turn_5 : decode cX7_turn 5 = .ok (.ifCond .eq 5, 3) := by decide +kernel
theorem dX7_turn_8 : decode cX7_turn 8 = .ok (.iconst (-1), 1) := by decide +kernel
theorem dX7_turn_9 : decode cX7_turn 9 = .ok (.ireturn, 1) := by decide +kernel
theorem dX7_turn_10 : decode cX7_turn 10 = .ok (.aload_n 0, 1) := by decide +kernel
theorem dX7_turn_11 : decode cX7_turn 11 = .ok (.iload_n 1, 1) := by decide +kernel
theorem dX7_turn_12 : decode cX7_turn 12 = .ok (.iload_n 2, 1) := by decide +kernel
theorem dX7_turn_13 : decode cX7_turn 13 = .ok (.invokevirtual 144, 3) := by decide +kernel
theorem dX7_turn_16 : decode cX7_turn 16 = .ok (.ireturn, 1) := by decide +kernel
theorem dX7_warm_0 : decode cX7_warm 0 = .ok (.iload_n 1, 1) := by decide +kernel
theorem dX7_warm_1 : decode cX7_warm 1 = .ok (.iconst 0, 1) := by decide +kernel
theorem dX7_warm_2 : decode cX7_warm 2 = .ok (.sipush 400, 3) := by decide +kernel
theorem dX7_warm_5 : decode cX7_warm 5 = .ok (.invokestatic 85, 3) := by decide +kernel
theorem dX7_warm_8 : decode cX7_warm 8 = .ok (.ifCond .eq 5, 3) := by decide +kernel
theorem dX7_warm_11 : decode cX7_warm 11 = .ok (.iconst (-1), 1) := by decide +kernel
theorem dX7_warm_12 : decode cX7_warm 12 = .ok (.ireturn, 1) := by decide +kernel
theorem dX7_warm_13 : decode cX7_warm 13 = .ok (.aload_n 0, 1) := by decide +kernel
theorem dX7_warm_14 : decode cX7_warm 14 = .ok (.getfield 26, 3) := by decide +kernel
theorem dX7_warm_17 : decode cX7_warm 17 = .ok (.getfield 68, 3) := by decide +kernel
theorem dX7_warm_20 : decode cX7_warm 20 = .ok (.istore_n 2, 1) := by decide +kernel
theorem dX7_warm_21 : decode cX7_warm 21 = .ok (.aload_n 0, 1) := by decide +kernel
theorem dX7_warm_22 : decode cX7_warm 22 = .ok (.getfield 26, 3) := by decide +kernel
theorem dX7_warm_25 : decode cX7_warm 25 = .ok (.iload_n 1, 1) := by decide +kernel
theorem dX7_warm_26 : decode cX7_warm 26 = .ok (.putfield 68, 3) := by decide +kernel
theorem dX7_warm_29 : decode cX7_warm 29 = .ok (.iload_n 2, 1) := by decide +kernel
theorem dX7_warm_30 : decode cX7_warm 30 = .ok (.ireturn, 1) := by decide +kernel
theorem dX7_half_0 : decode cX7_half 0 = .ok (.aload_n 0, 1) := by decide +kernel
theorem dX7_half_1 : decode cX7_half 1 = .ok (.getfield 26, 3) := by decide +kernel
theorem dX7_half_4 : decode cX7_half 4 = .ok (.invokevirtual 148, 3) := by decide +kernel
theorem dX7_half_7 : decode cX7_half 7 = .ok (.aload_n 0, 1) := by decide +kernel
theorem dX7_half_8 : decode cX7_half 8 = .ok (.getfield 26, 3) := by decide +kernel
theorem dX7_half_11 : decode cX7_half 11 = .ok (.getfield 138, 3) := by decide +kernel
theorem dX7_half_14 : decode cX7_half 14 = .ok (.ireturn, 1) := by decide +kernel
theorem dX7_now_0 : decode cX7_now 0 = .ok (.iload_n 1, 1) := by decide +kernel
theorem dX7_now_1 : decode cX7_now 1 = .ok (.iconst 0, 1) := by decide +kernel
theorem dX7_now_2 : decode cX7_now 2 = .ok (.bipush 9, 2) := by decide +kernel
theorem dX7_now_4 : decode cX7_now 4 = .ok (.invokestatic 85, 3) := by decide +kernel
theorem dX7_now_7 : decode cX7_now 7 = .ok (.ifCond .eq 7, 3) := by decide +kernel
theorem dX7_now_10 : decode cX7_now 10 = .ok (.iconst (-1), 1) := by decide +kernel
theorem dX7_now_11 : decode cX7_now 11 = .ok (.goto 15, 3) := by decide +kernel
theorem dX7_now_14 : decode cX7_now 14 = .ok (.aload_n 0, 1) := by decide +kernel
theorem dX7_now_15 : decode cX7_now 15 = .ok (.getfield 26, 3) := by decide +kernel
theorem dX7_now_18 : decode cX7_now 18 = .ok (.aload_n 0, 1) := by decide +kernel
theorem dX7_now_19 : decode cX7_now 19 = .ok (.getfield 10, 3) := by decide +kernel
theorem dX7_now_22 : decode cX7_now 22 = .ok (.iload_n 1, 1) := by decide +kernel
theorem dX7_now_23 : decode cX7_now 23 = .ok (.invokevirtual 151, 3) := by decide +kernel
theorem dX7_now_26 : decode cX7_now 26 = .ok (.ireturn, 1) := by decide +kernel
theorem dX7_drops_0 : decode cX7_drops 0 = .ok (.aload_n 0, 1) := by decide +kernel
theorem dX7_drops_1 : decode cX7_drops 1 = .ok (.getfield 26, 3) := by decide +kernel
theorem dX7_drops_4 : decode cX7_drops 4 = .ok (.iload_n 1, 1) := by decide +kernel
theorem dX7_drops_5 : decode cX7_drops 5 = .ok (.invokevirtual 155, 3) := by decide +kernel
theorem dX7_drops_8 : decode cX7_drops 8 = .ok (.ireturn, 1) := by decide +kernel
theorem dX7_run_0 : decode cX7_run 0 = .ok (.aload_n 0, 1) := by decide +kernel
theorem dX7_run_1 : decode cX7_run 1 = .ok (.iload_n 1, 1) := by decide +kernel
theorem dX7_run_2 : decode cX7_run 2 = .ok (.iload_n 2, 1) := by decide +kernel
theorem dX7_run_3 : decode cX7_run 3 = .ok (.iload_n 3, 1) := by decide +kernel
theorem dX7_run_4 : decode cX7_run 4 = .ok (.invokevirtual 159, 3) := by decide +kernel
theorem dX7_run_7 : decode cX7_run 7 = .ok (.ifCond .ne 26, 3) := by decide +kernel
theorem dX7_run_10 : decode cX7_run 10 = .ok (.iload 4, 2) := by decide +kernel
theorem dX7_run_12 : decode cX7_run 12 = .ok (.iconst 0, 1) := by decide +kernel
theorem dX7_run_13 : decode cX7_run 13 = .ok (.sipush 400, 3) := by decide +kernel
theorem dX7_run_16 : decode cX7_run 16 = .ok (.invokestatic 85, 3) := by decide +kernel
theorem dX7_run_19 : decode cX7_run 19 = .ok (.ifCond .ne 14, 3) := by decide +kernel
theorem dX7_run_22 : decode cX7_run 22 = .ok (.iload 5, 2) := by decide +kernel
theorem dX7_run_24 : decode cX7_run 24 = .ok (.iconst 0, 1) := by decide +kernel
theorem dX7_run_25 : decode cX7_run 25 = .ok (.bipush 16, 2) := by decide +kernel
theorem dX7_run_27 : decode cX7_run 27 = .ok (.invokestatic 85, 3) := by decide +kernel
theorem dX7_run_30 : decode cX7_run 30 = .ok (.ifCond .eq 5, 3) := by decide +kernel
theorem dX7_run_33 : decode cX7_run 33 = .ok (.iconst (-1), 1) := by decide +kernel
theorem dX7_run_34 : decode cX7_run 34 = .ok (.ireturn, 1) := by decide +kernel
theorem dX7_run_35 : decode cX7_run 35 = .ok (.aload_n 0, 1) := by decide +kernel
theorem dX7_run_36 : decode cX7_run 36 = .ok (.getfield 30, 3) := by decide +kernel
theorem dX7_run_39 : decode cX7_run 39 = .ok (.aload_n 0, 1) := by decide +kernel
theorem dX7_run_40 : decode cX7_run 40 = .ok (.getfield 10, 3) := by decide +kernel
theorem dX7_run_43 : decode cX7_run 43 = .ok (.iload_n 1, 1) := by decide +kernel
theorem dX7_run_44 : decode cX7_run 44 = .ok (.iload_n 2, 1) := by decide +kernel
theorem dX7_run_45 : decode cX7_run 45 = .ok (.invokevirtual 108, 3) := by decide +kernel
theorem dX7_run_48 : decode cX7_run 48 = .ok (.iconst 0, 1) := by decide +kernel
theorem dX7_run_49 : decode cX7_run 49 = .ok (.istore 6, 2) := by decide +kernel
theorem dX7_run_51 : decode cX7_run 51 = .ok (.iload 6, 2) := by decide +kernel
theorem dX7_run_53 : decode cX7_run 53 = .ok (.iload 4, 2) := by decide +kernel
theorem dX7_run_55 : decode cX7_run 55 = .ok (.if_icmp .ge 22, 3) := by decide +kernel
theorem dX7_run_58 : decode cX7_run 58 = .ok (.aload_n 0, 1) := by decide +kernel
theorem dX7_run_59 : decode cX7_run 59 = .ok (.getfield 30, 3) := by decide +kernel
theorem dX7_run_62 : decode cX7_run 62 = .ok (.aload_n 0, 1) := by decide +kernel
theorem dX7_run_63 : decode cX7_run 63 = .ok (.getfield 10, 3) := by decide +kernel
theorem dX7_run_66 : decode cX7_run 66 = .ok (.iload_n 3, 1) := by decide +kernel
theorem dX7_run_67 : decode cX7_run 67 = .ok (.invokevirtual 162, 3) := by decide +kernel
theorem dX7_run_70 : decode cX7_run 70 = .ok (.pop, 1) := by decide +kernel
theorem dX7_run_71 : decode cX7_run 71 = .ok (.iinc 6 1, 3) := by decide +kernel
theorem dX7_run_74 : decode cX7_run 74 = .ok (.goto (-23), 3) := by decide +kernel
theorem dX7_run_77 : decode cX7_run 77 = .ok (.iload 5, 2) := by decide +kernel
theorem dX7_run_79 : decode cX7_run 79 = .ok (.bipush 10, 2) := by decide +kernel
theorem dX7_run_81 : decode cX7_run 81 = .ok (.if_icmp .ge 19, 3) := by decide +kernel
theorem dX7_run_84 : decode cX7_run 84 = .ok (.aload_n 0, 1) := by decide +kernel
theorem dX7_run_85 : decode cX7_run 85 = .ok (.getfield 30, 3) := by decide +kernel
theorem dX7_run_88 : decode cX7_run 88 = .ok (.aload_n 0, 1) := by decide +kernel
theorem dX7_run_89 : decode cX7_run 89 = .ok (.getfield 10, 3) := by decide +kernel
theorem dX7_run_92 : decode cX7_run 92 = .ok (.iload 5, 2) := by decide +kernel
theorem dX7_run_94 : decode cX7_run 94 = .ok (.invokevirtual 151, 3) := by decide +kernel
theorem dX7_run_97 : decode cX7_run 97 = .ok (.goto 15, 3) := by decide +kernel
theorem dX7_run_100 : decode cX7_run 100 = .ok (.aload_n 0, 1) := by decide +kernel
theorem dX7_run_101 : decode cX7_run 101 = .ok (.getfield 30, 3) := by decide +kernel
theorem dX7_run_104 : decode cX7_run 104 = .ok (.iload 5, 2) := by decide +kernel
theorem dX7_run_106 : decode cX7_run 106 = .ok (.bipush 10, 2) := by decide +kernel
theorem dX7_run_108 : decode cX7_run 108 = .ok (.isub, 1) := by decide +kernel
theorem dX7_run_109 : decode cX7_run 109 = .ok (.invokevirtual 155, 3) := by decide +kernel
theorem dX7_run_112 : decode cX7_run 112 = .ok (.ireturn, 1) := by decide +kernel
theorem dX7_comes_0 : decode cX7_comes 0 = .ok (.aload_n 0, 1) := by decide +kernel
theorem dX7_comes_1 : decode cX7_comes 1 = .ok (.iload_n 1, 1) := by decide +kernel
theorem dX7_comes_2 : decode cX7_comes 2 = .ok (.iload_n 2, 1) := by decide +kernel
theorem dX7_comes_3 : decode cX7_comes 3 = .ok (.iload_n 3, 1) := by decide +kernel
theorem dX7_comes_4 : decode cX7_comes 4 = .ok (.invokevirtual 159, 3) := by decide +kernel
theorem dX7_comes_7 : decode cX7_comes 7 = .ok (.ifCond .eq 5, 3) := by decide +kernel
theorem dX7_comes_10 : decode cX7_comes 10 = .ok (.iconst (-1), 1) := by decide +kernel
theorem dX7_comes_11 : decode cX7_comes 11 = .ok (.ireturn, 1) := by decide +kernel
theorem dX7_comes_12 : decode cX7_comes 12 = .ok (.aload_n 0, 1) := by decide +kernel
theorem dX7_comes_13 : decode cX7_comes 13 = .ok (.getfield 30, 3) := by decide +kernel
theorem dX7_comes_16 : decode cX7_comes 16 = .ok (.aload_n 0, 1) := by decide +kernel
theorem dX7_comes_17 : decode cX7_comes 17 = .ok (.getfield 10, 3) := by decide +kernel
theorem dX7_comes_20 : decode cX7_comes 20 = .ok (.iload_n 1, 1) := by decide +kernel
theorem dX7_comes_21 : decode cX7_comes 21 = .ok (.iload_n 2, 1) := by decide +kernel
theorem dX7_comes_22 : decode cX7_comes 22 = .ok (.invokevirtual 108, 3) := by decide +kernel
theorem dX7_comes_25 : decode cX7_comes 25 = .ok (.aload_n 0, 1) := by decide +kernel
theorem dX7_comes_26 : decode cX7_comes 26 = .ok (.iload_n 3, 1) := by decide +kernel
theorem dX7_comes_27 : decode cX7_comes 27 = .ok (.sipush 400, 3) := by decide +kernel
theorem dX7_comes_30 : decode cX7_comes 30 = .ok (.invokevirtual 166, 3) := by decide +kernel
theorem dX7_comes_33 : decode cX7_comes 33 = .ok (.ireturn, 1) := by decide +kernel
theorem dX7_plan_0 : decode cX7_plan 0 = .ok (.aload_n 0, 1) := by decide +kernel
theorem dX7_plan_1 : decode cX7_plan 1 = .ok (.getfield 10, 3) := by decide +kernel
theorem dX7_plan_4 : decode cX7_plan 4 = .ok (.iload_n 1, 1) := by decide +kernel
theorem dX7_plan_5 : decode cX7_plan 5 = .ok (.invokevirtual 135, 3) := by decide +kernel
theorem dX7_plan_8 : decode cX7_plan 8 = .ok (.ifCond .eq 12, 3) := by decide +kernel
theorem dX7_plan_11 : decode cX7_plan 11 = .ok (.iload_n 2, 1) := by decide +kernel
theorem dX7_plan_12 : decode cX7_plan 12 = .ok (.iconst 0, 1) := by decide +kernel
theorem dX7_plan_13 : decode cX7_plan 13 = .ok (.iconst 3, 1) := by decide +kernel
theorem dX7_plan_14 : decode cX7_plan 14 = .ok (.invokestatic 85, 3) := by decide +kernel
theorem dX7_plan_17 : decode cX7_plan 17 = .ok (.ifCond .eq 5, 3) := by decide +kernel
theorem dX7_plan_20 : decode cX7_plan 20 = .ok (.iconst (-1), 1) := by decide +kernel
theorem dX7_plan_21 : decode cX7_plan 21 = .ok (.ireturn, 1) := by decide +kernel
theorem dX7_plan_22 : decode cX7_plan 22 = .ok (.aload_n 0, 1) := by decide +kernel
theorem dX7_plan_23 : decode cX7_plan 23 = .ok (.iload_n 1, 1) := by decide +kernel
theorem dX7_plan_24 : decode cX7_plan 24 = .ok (.invokevirtual 169, 3) := by decide +kernel
theorem dX7_plan_27 : decode cX7_plan 27 = .ok (.aload_n 0, 1) := by decide +kernel
theorem dX7_plan_28 : decode cX7_plan 28 = .ok (.getfield 36, 3) := by decide +kernel
theorem dX7_plan_31 : decode cX7_plan 31 = .ok (.getfield 173, 3) := by decide +kernel
theorem dX7_plan_34 : decode cX7_plan 34 = .ok (.ifCond .eq 14, 3) := by decide +kernel
theorem dX7_plan_37 : decode cX7_plan 37 = .ok (.aload_n 0, 1) := by decide +kernel
theorem dX7_plan_38 : decode cX7_plan 38 = .ok (.getfield 36, 3) := by decide +kernel
theorem dX7_plan_41 : decode cX7_plan 41 = .ok (.iload_n 2, 1) := by decide +kernel
theorem dX7_plan_42 : decode cX7_plan 42 = .ok (.invokevirtual 174, 3) := by decide +kernel
theorem dX7_plan_45 : decode cX7_plan 45 = .ok (.goto 5, 3) := by decide +kernel
theorem dX7_plan_48 : decode cX7_plan 48 = .ok (.bipush (-4), 2) := by decide +kernel
theorem dX7_plan_50 : decode cX7_plan 50 = .ok (.ireturn, 1) := by decide +kernel
theorem dX7_without_0 : decode cX7_without 0 = .ok (.iload_n 1, 1) := by decide +kernel
theorem dX7_without_1 : decode cX7_without 1 = .ok (.iconst 0, 1) := by decide +kernel
theorem dX7_without_2 : decode cX7_without 2 = .ok (.iconst 1, 1) := by decide +kernel
theorem dX7_without_3 : decode cX7_without 3 = .ok (.invokestatic 85, 3) := by decide +kernel
theorem dX7_without_6 : decode cX7_without 6 = .ok (.ifCond .eq 5, 3) := by decide +kernel
theorem dX7_without_9 : decode cX7_without 9 = .ok (.iconst (-1), 1) := by decide +kernel
theorem dX7_without_10 : decode cX7_without 10 = .ok (.ireturn, 1) := by decide +kernel
theorem dX7_without_11 : decode cX7_without 11 = .ok (.aload_n 0, 1) := by decide +kernel
theorem dX7_without_12 : decode cX7_without 12 = .ok (.getfield 10, 3) := by decide +kernel
theorem dX7_without_15 : decode cX7_without 15 = .ok (.invokevirtual 105, 3) := by decide +kernel
theorem dX7_without_18 : decode cX7_without 18 = .ok (.istore_n 2, 1) := by decide +kernel
theorem dX7_without_19 : decode cX7_without 19 = .ok (.bipush (-4), 2) := by decide +kernel
theorem dX7_without_21 : decode cX7_without 21 = .ok (.istore_n 3, 1) := by decide +kernel
theorem dX7_without_22 : decode cX7_without 22 = .ok (.iconst 0, 1) := by decide +kernel
theorem dX7_without_23 : decode cX7_without 23 = .ok (.istore 4, 2) := by decide +kernel
theorem dX7_without_25 : decode cX7_without 25 = .ok (.iload 4, 2) := by decide +kernel
theorem dX7_without_27 : decode cX7_without 27 = .ok (.iload_n 2, 1) := by decide +kernel
theorem dX7_without_28 : decode cX7_without 28 = .ok (.if_icmp .ge 65, 3) := by decide +kernel
theorem dX7_without_31 : decode cX7_without 31 = .ok (.iload_n 3, 1) := by decide +kernel
theorem dX7_without_32 : decode cX7_without 32 = .ok (.bipush (-4), 2) := by decide +kernel
theorem dX7_without_34 : decode cX7_without 34 = .ok (.if_icmp .eq 15, 3) := by decide +kernel
theorem dX7_without_37 : decode cX7_without 37 = .ok (.iload 4, 2) := by decide +kernel
theorem dX7_without_39 : decode cX7_without 39 = .ok (.invokestatic 176, 3) := by decide +kernel
theorem dX7_without_42 : decode cX7_without 42 = .ok (.iload_n 3, 1) := by decide +kernel
theorem dX7_without_43 : decode cX7_without 43 = .ok (.invokestatic 176, 3) := by decide +kernel
theorem dX7_without_46 : decode cX7_without 46 = .ok (.if_icmp .ge 7, 3) := by decide +kernel
theorem dX7_without_49 : decode cX7_without 49 = .ok (.iconst 1, 1) := by decide +kernel
theorem dX7_without_50 : decode cX7_without 50 = .ok (.goto 4, 3) := by decide +kernel
theorem dX7_without_53 : decode cX7_without 53 = .ok (.iconst 0, 1) := by decide +kernel
theorem dX7_without_54 : decode cX7_without 54 = .ok (.istore 5, 2) := by decide +kernel
theorem dX7_without_56 : decode cX7_without 56 = .ok (.iload 5, 2) := by decide +kernel
theorem dX7_without_58 : decode cX7_without 58 = .ok (.ifCond .eq 29, 3) := by decide +kernel
theorem dX7_without_61 : decode cX7_without 61 = .ok (.aload_n 0, 1) := by decide +kernel
theorem dX7_without_62 : decode cX7_without 62 = .ok (.getfield 10, 3) := by decide +kernel
theorem dX7_without_65 : decode cX7_without 65 = .ok (.aload_n 0, 1) := by decide +kernel
theorem dX7_without_66 : decode cX7_without 66 = .ok (.getfield 10, 3) := by decide +kernel
theorem dX7_without_69 : decode cX7_without 69 = .ok (.iload_n 2, 1) := by decide +kernel
theorem dX7_without_70 : decode cX7_without 70 = .ok (.iload 4, 2) := by decide +kernel
theorem dX7_without_72 : decode cX7_without 72 = .ok (.iconst (-1), 1) := by decide +kernel
theorem dX7_without_73 : decode cX7_without 73 = .ok (.ixor, 1) := by decide +kernel
theorem dX7_without_74 : decode cX7_without 74 = .ok (.iand, 1) := by decide +kernel
theorem dX7_without_75 : decode cX7_without 75 = .ok (.invokevirtual 181, 3) := by decide +kernel
theorem dX7_without_78 : decode cX7_without 78 = .ok (.invokevirtual 184, 3) := by decide +kernel
theorem dX7_without_81 : decode cX7_without 81 = .ok (.ifCond .eq 6, 3) := by decide +kernel
theorem dX7_without_84 : decode cX7_without 84 = .ok (.iload 4, 2) := by decide +kernel
theorem dX7_without_86 : decode cX7_without 86 = .ok (.istore_n 3, 1) := by decide +kernel
theorem dX7_without_87 : decode cX7_without 87 = .ok (.iinc 4 1, 3) := by decide +kernel
theorem dX7_without_90 : decode cX7_without 90 = .ok (.goto (-65), 3) := by decide +kernel
theorem dX7_without_93 : decode cX7_without 93 = .ok (.iload_n 3, 1) := by decide +kernel
theorem dX7_without_94 : decode cX7_without 94 = .ok (.bipush (-4), 2) := by decide +kernel
theorem dX7_without_96 : decode cX7_without 96 = .ok (.if_icmp .eq 8, 3) := by decide +kernel
theorem dX7_without_99 : decode cX7_without 99 = .ok (.iload_n 1, 1) := by decide +kernel
theorem dX7_without_100 : decode cX7_without 100 = .ok (.iconst 1, 1) := by decide +kernel
theorem dX7_without_101 : decode cX7_without 101 = .ok (.if_icmp .ne 7, 3) := by decide +kernel
theorem dX7_without_104 : decode cX7_without 104 = .ok (.iload_n 3, 1) := by decide +kernel
theorem dX7_without_105 : decode cX7_without 105 = .ok (.goto 7, 3) := by decide +kernel
theorem dX7_without_108 : decode cX7_without 108 = .ok (.iload_n 3, 1) := by decide +kernel
theorem dX7_without_109 : decode cX7_without 109 = .ok (.invokestatic 176, 3) := by decide +kernel
theorem dX7_without_112 : decode cX7_without 112 = .ok (.ireturn, 1) := by decide +kernel
theorem dX7_saw_0 : decode cX7_saw 0 = .ok (.aload_n 0, 1) := by decide +kernel
theorem dX7_saw_1 : decode cX7_saw 1 = .ok (.getfield 10, 3) := by decide +kernel
theorem dX7_saw_4 : decode cX7_saw 4 = .ok (.iload_n 1, 1) := by decide +kernel
theorem dX7_saw_5 : decode cX7_saw 5 = .ok (.invokevirtual 135, 3) := by decide +kernel
theorem dX7_saw_8 : decode cX7_saw 8 = .ok (.ifCond .eq 14, 3) := by decide +kernel
theorem dX7_saw_11 : decode cX7_saw 11 = .ok (.iload_n 2, 1) := by decide +kernel
theorem dX7_saw_12 : decode cX7_saw 12 = .ok (.iconst 0, 1) := by decide +kernel
theorem dX7_saw_13 : decode cX7_saw 13 = .ok (.sipush 400, 3) := by decide +kernel
theorem dX7_saw_16 : decode cX7_saw 16 = .ok (.invokestatic 85, 3) := by decide +kernel
theorem dX7_saw_19 : decode cX7_saw 19 = .ok (.ifCond .eq 5, 3) := by decide +kernel
theorem dX7_saw_22 : decode cX7_saw 22 = .ok (.iconst (-1), 1) := by decide +kernel
theorem dX7_saw_23 : decode cX7_saw 23 = .ok (.ireturn, 1) := by decide +kernel
theorem dX7_saw_24 : decode cX7_saw 24 = .ok (.aload_n 0, 1) := by decide +kernel
theorem dX7_saw_25 : decode cX7_saw 25 = .ok (.getfield 112, 3) := by decide +kernel
theorem dX7_saw_28 : decode cX7_saw 28 = .ok (.aload_n 0, 1) := by decide +kernel
theorem dX7_saw_29 : decode cX7_saw 29 = .ok (.getfield 54, 3) := by decide +kernel
theorem dX7_saw_32 : decode cX7_saw 32 = .ok (.arraylength, 1) := by decide +kernel
theorem dX7_saw_33 : decode cX7_saw 33 = .ok (.if_icmp .ge 15, 3) := by decide +kernel
theorem dX7_saw_36 : decode cX7_saw 36 = .ok (.aload_n 0, 1) := by decide +kernel
theorem dX7_saw_37 : decode cX7_saw 37 = .ok (.getfield 112, 3) := by decide +kernel
theorem dX7_saw_40 : decode cX7_saw 40 = .ok (.aload_n 0, 1) := by decide +kernel
theorem dX7_saw_41 : decode cX7_saw 41 = .ok (.getfield 58, 3) := by decide +kernel
theorem dX7_saw_44 : decode cX7_saw 44 = .ok (.arraylength, 1) := by decide +kernel
theorem dX7_saw_45 : decode cX7_saw 45 = .ok (.if_icmp .lt 6, 3) := by decide +kernel
theorem dX7_saw_48 : decode cX7_saw 48 = .ok (.bipush (-3), 2) := by decide +kernel
theorem dX7_saw_50 : decode cX7_saw 50 = .ok (.ireturn, 1) := by decide +kernel
theorem dX7_saw_51 : decode cX7_saw 51 = .ok (.aload_n 0, 1) := by decide +kernel
theorem dX7_saw_52 : decode cX7_saw 52 = .ok (.getfield 54, 3) := by decide +kernel
theorem dX7_saw_55 : decode cX7_saw 55 = .ok (.aload_n 0, 1) := by decide +kernel
theorem dX7_saw_56 : decode cX7_saw 56 = .ok (.getfield 112, 3) := by decide +kernel
theorem dX7_saw_59 : decode cX7_saw 59 = .ok (.iload_n 1, 1) := by decide +kernel
theorem dX7_saw_60 : decode cX7_saw 60 = .ok (.iastore, 1) := by decide +kernel
theorem dX7_saw_61 : decode cX7_saw 61 = .ok (.aload_n 0, 1) := by decide +kernel
theorem dX7_saw_62 : decode cX7_saw 62 = .ok (.getfield 58, 3) := by decide +kernel
theorem dX7_saw_65 : decode cX7_saw 65 = .ok (.aload_n 0, 1) := by decide +kernel
theorem dX7_saw_66 : decode cX7_saw 66 = .ok (.getfield 112, 3) := by decide +kernel
theorem dX7_saw_69 : decode cX7_saw 69 = .ok (.iload_n 2, 1) := by decide +kernel
theorem dX7_saw_70 : decode cX7_saw 70 = .ok (.iastore, 1) := by decide +kernel
theorem dX7_saw_71 : decode cX7_saw 71 = .ok (.aload_n 0, 1) := by decide +kernel
theorem dX7_saw_72 : decode cX7_saw 72 = .ok (.dup, 1) := by decide +kernel
theorem dX7_saw_73 : decode cX7_saw 73 = .ok (.getfield 112, 3) := by decide +kernel
theorem dX7_saw_76 : decode cX7_saw 76 = .ok (.iconst 1, 1) := by decide +kernel
theorem dX7_saw_77 : decode cX7_saw 77 = .ok (.iadd, 1) := by decide +kernel
theorem dX7_saw_78 : decode cX7_saw 78 = .ok (.putfield 112, 3) := by decide +kernel
theorem dX7_saw_81 : decode cX7_saw 81 = .ok (.aload_n 0, 1) := by decide +kernel
theorem dX7_saw_82 : decode cX7_saw 82 = .ok (.getfield 112, 3) := by decide +kernel
theorem dX7_saw_85 : decode cX7_saw 85 = .ok (.ireturn, 1) := by decide +kernel
theorem dX7_forget_0 : decode cX7_forget 0 = .ok (.aload_n 0, 1) := by decide +kernel
theorem dX7_forget_1 : decode cX7_forget 1 = .ok (.getfield 112, 3) := by decide +kernel
theorem dX7_forget_4 : decode cX7_forget 4 = .ok (.istore_n 1, 1) := by decide +kernel
theorem dX7_forget_5 : decode cX7_forget 5 = .ok (.aload_n 0, 1) := by decide +kernel
theorem dX7_forget_6 : decode cX7_forget 6 = .ok (.iconst 0, 1) := by decide +kernel
theorem dX7_forget_7 : decode cX7_forget 7 = .ok (.putfield 112, 3) := by decide +kernel
theorem dX7_forget_10 : decode cX7_forget 10 = .ok (.iload_n 1, 1) := by decide +kernel
theorem dX7_forget_11 : decode cX7_forget 11 = .ok (.ireturn, 1) := by decide +kernel
theorem dX7_why_0 : decode cX7_why 0 = .ok (.iload_n 1, 1) := by decide +kernel
theorem dX7_why_1 : decode cX7_why 1 = .ok (.iconst 0, 1) := by decide +kernel
theorem dX7_why_2 : decode cX7_why 2 = .ok (.iconst 2, 1) := by decide +kernel
theorem dX7_why_3 : decode cX7_why 3 = .ok (.invokestatic 85, 3) := by decide +kernel
theorem dX7_why_6 : decode cX7_why 6 = .ok (.ifCond .eq 5, 3) := by decide +kernel
theorem dX7_why_9 : decode cX7_why 9 = .ok (.iconst (-1), 1) := by decide +kernel
theorem dX7_why_10 : decode cX7_why 10 = .ok (.ireturn, 1) := by decide +kernel
theorem dX7_why_11 : decode cX7_why 11 = .ok (.iconst 0, 1) := by decide +kernel
theorem dX7_why_12 : decode cX7_why 12 = .ok (.istore_n 2, 1) := by decide +kernel
theorem dX7_why_13 : decode cX7_why 13 = .ok (.iconst 0, 1) := by decide +kernel
theorem dX7_why_14 : decode cX7_why 14 = .ok (.istore_n 3, 1) := by decide +kernel
theorem dX7_why_15 : decode cX7_why 15 = .ok (.iload_n 3, 1) := by decide +kernel
theorem dX7_why_16 : decode cX7_why 16 = .ok (.sipush 400, 3) := by decide +kernel
theorem dX7_why_19 : decode cX7_why 19 = .ok (.if_icmp .gt 54, 3) := by decide +kernel
theorem dX7_why_22 : decode cX7_why 22 = .ok (.iconst 1, 1) := by decide +kernel
theorem dX7_why_23 : decode cX7_why 23 = .ok (.istore 4, 2) := by decide +kernel
theorem dX7_why_25 : decode cX7_why 25 = .ok (.iload 4, 2) := by decide +kernel
theorem dX7_why_27 : decode cX7_why 27 = .ok (.bipush 9, 2) := by decide +kernel
theorem dX7_why_29 : decode cX7_why 29 = .ok (.if_icmp .gt 38, 3) := by decide +kernel
theorem dX7_why_32 : decode cX7_why 32 = .ok (.aload_n 0, 1) := by decide +kernel
theorem dX7_why_33 : decode cX7_why 33 = .ok (.iload_n 3, 1) := by decide +kernel
theorem dX7_why_34 : decode cX7_why 34 = .ok (.iload 4, 2) := by decide +kernel
theorem dX7_why_36 : decode cX7_why 36 = .ok (.invokevirtual 187, 3) := by decide +kernel
theorem dX7_why_39 : decode cX7_why 39 = .ok (.ifCond .eq 22, 3) := by decide +kernel
theorem dX7_why_42 : decode cX7_why 42 = .ok (.iload_n 1, 1) := by decide +kernel
theorem dX7_why_43 : decode cX7_why 43 = .ok (.ifCond .eq 15, 3) := by decide +kernel
theorem dX7_why_46 : decode cX7_why 46 = .ok (.iload_n 1, 1) := by decide +kernel
theorem dX7_why_47 : decode cX7_why 47 = .ok (.iconst 1, 1) := by decide +kernel
theorem dX7_why_48 : decode cX7_why 48 = .ok (.if_icmp .ne 7, 3) := by decide +kernel
theorem dX7_why_51 : decode cX7_why 51 = .ok (.iload_n 3, 1) := by decide +kernel
theorem dX7_why_52 : decode cX7_why 52 = .ok (.goto 5, 3) := by decide +kernel
theorem dX7_why_55 : decode cX7_why 55 = .ok (.iload 4, 2) := by decide +kernel
theorem dX7_why_57 : decode cX7_why 57 = .ok (.ireturn, 1) := by decide +kernel
theorem dX7_why_58 : decode cX7_why 58 = .ok (.iinc 2 1, 3) := by decide +kernel
theorem dX7_why_61 : decode cX7_why 61 = .ok (.iinc 4 1, 3) := by decide +kernel
theorem dX7_why_64 : decode cX7_why 64 = .ok (.goto (-39), 3) := by decide +kernel
theorem dX7_why_67 : decode cX7_why 67 = .ok (.iinc 3 20, 3) := by decide +kernel
theorem dX7_why_70 : decode cX7_why 70 = .ok (.goto (-55), 3) := by decide +kernel
theorem dX7_why_73 : decode cX7_why 73 = .ok (.iload_n 1, 1) := by decide +kernel
theorem dX7_why_74 : decode cX7_why 74 = .ok (.ifCond .ne 7, 3) := by decide +kernel
theorem dX7_why_77 : decode cX7_why 77 = .ok (.iload_n 2, 1) := by decide +kernel
theorem dX7_why_78 : decode cX7_why 78 = .ok (.goto 5, 3) := by decide +kernel
theorem dX7_why_81 : decode cX7_why 81 = .ok (.bipush (-4), 2) := by decide +kernel
theorem dX7_why_83 : decode cX7_why 83 = .ok (.ireturn, 1) := by decide +kernel
theorem dX7_next_0 : decode cX7_next 0 = .ok (.iload_n 1, 1) := by decide +kernel
theorem dX7_next_1 : decode cX7_next 1 = .ok (.iconst 1, 1) := by decide +kernel
theorem dX7_next_2 : decode cX7_next 2 = .ok (.bipush 9, 2) := by decide +kernel
theorem dX7_next_4 : decode cX7_next 4 = .ok (.invokestatic 85, 3) := by decide +kernel
theorem dX7_next_7 : decode cX7_next 7 = .ok (.ifCond .ne 12, 3) := by decide +kernel
theorem dX7_next_10 : decode cX7_next 10 = .ok (.iload_n 2, 1) := by decide +kernel
theorem dX7_next_11 : decode cX7_next 11 = .ok (.iconst 0, 1) := by decide +kernel
theorem dX7_next_12 : decode cX7_next 12 = .ok (.iconst 1, 1) := by decide +kernel
theorem dX7_next_13 : decode cX7_next 13 = .ok (.invokestatic 85, 3) := by decide +kernel
theorem dX7_next_16 : decode cX7_next 16 = .ok (.ifCond .eq 5, 3) := by decide +kernel
theorem dX7_next_19 : decode cX7_next 19 = .ok (.iconst (-1), 1) := by decide +kernel
theorem dX7_next_20 : decode cX7_next 20 = .ok (.ireturn, 1) := by decide +kernel
theorem dX7_next_21 : decode cX7_next 21 = .ok (.aload_n 0, 1) := by decide +kernel
theorem dX7_next_22 : decode cX7_next 22 = .ok (.getfield 26, 3) := by decide +kernel
theorem dX7_next_25 : decode cX7_next 25 = .ok (.invokevirtual 190, 3) := by decide +kernel
theorem dX7_next_28 : decode cX7_next 28 = .ok (.ifCond .eq 6, 3) := by decide +kernel
theorem dX7_next_31 : decode cX7_next 31 = .ok (.bipush (-2), 2) := by decide +kernel
theorem dX7_next_33 : decode cX7_next 33 = .ok (.ireturn, 1) := by decide +kernel
theorem dX7_next_34 : decode cX7_next 34 = .ok (.bipush (-4), 2) := by decide +kernel
theorem dX7_next_36 : decode cX7_next 36 = .ok (.istore_n 3, 1) := by decide +kernel
theorem dX7_next_37 : decode cX7_next 37 = .ok (.bipush (-4), 2) := by decide +kernel
theorem dX7_next_39 : decode cX7_next 39 = .ok (.istore 4, 2) := by decide +kernel
theorem dX7_next_41 : decode cX7_next 41 = .ok (.iconst 0, 1) := by decide +kernel
theorem dX7_next_42 : decode cX7_next 42 = .ok (.istore 5, 2) := by decide +kernel
theorem dX7_next_44 : decode cX7_next 44 = .ok (.iload 5, 2) := by decide +kernel
theorem dX7_next_46 : decode cX7_next 46 = .ok (.iconst 3, 1) := by decide +kernel
theorem dX7_next_47 : decode cX7_next 47 = .ok (.if_icmp .gt 51, 3) := by decide +kernel
theorem dX7_next_50 : decode cX7_next 50 = .ok (.aload_n 0, 1) := by decide +kernel
theorem dX7_next_51 : decode cX7_next 51 = .ok (.iload 5, 2) := by decide +kernel
theorem dX7_next_53 : decode cX7_next 53 = .ok (.invokevirtual 194, 3) := by decide +kernel
theorem dX7_next_56 : decode cX7_next 56 = .ok (.aload_n 0, 1) := by decide +kernel
theorem dX7_next_57 : decode cX7_next 57 = .ok (.iload_n 1, 1) := by decide +kernel
theorem dX7_next_58 : decode cX7_next 58 = .ok (.sipush 400, 3) := by decide +kernel
theorem dX7_next_61 : decode cX7_next 61 = .ok (.invokevirtual 166, 3) := by decide +kernel
theorem dX7_next_64 : decode cX7_next 64 = .ok (.istore 6, 2) := by decide +kernel
theorem dX7_next_66 : decode cX7_next 66 = .ok (.iload 6, 2) := by decide +kernel
theorem dX7_next_68 : decode cX7_next 68 = .ok (.bipush (-4), 2) := by decide +kernel
theorem dX7_next_70 : decode cX7_next 70 = .ok (.if_icmp .eq 22, 3) := by decide +kernel
theorem dX7_next_73 : decode cX7_next 73 = .ok (.iload_n 3, 1) := by decide +kernel
theorem dX7_next_74 : decode cX7_next 74 = .ok (.bipush (-4), 2) := by decide +kernel
theorem dX7_next_76 : decode cX7_next 76 = .ok (.if_icmp .eq 9, 3) := by decide +kernel
theorem dX7_next_79 : decode cX7_next 79 = .ok (.iload 6, 2) := by decide +kernel
theorem dX7_next_81 : decode cX7_next 81 = .ok (.iload_n 3, 1) := by decide +kernel
theorem dX7_next_82 : decode cX7_next 82 = .ok (.if_icmp .ge 10, 3) := by decide +kernel
theorem dX7_next_85 : decode cX7_next 85 = .ok (.iload 6, 2) := by decide +kernel
theorem dX7_next_87 : decode cX7_next 87 = .ok (.istore_n 3, 1) := by decide +kernel
theorem dX7_next_88 : decode cX7_next 88 = .ok (.iload 5, 2) := by decide +kernel
theorem dX7_next_90 : decode cX7_next 90 = .ok (.istore 4, 2) := by decide +kernel
theorem dX7_next_92 : decode cX7_next 92 = .ok (.iinc 5 1, 3) := by decide +kernel
theorem dX7_next_95 : decode cX7_next 95 = .ok (.goto (-51), 3) := by decide +kernel
theorem dX7_next_98 : decode cX7_next 98 = .ok (.iload_n 2, 1) := by decide +kernel
theorem dX7_next_99 : decode cX7_next 99 = .ok (.ifCond .ne 8, 3) := by decide +kernel
theorem dX7_next_102 : decode cX7_next 102 = .ok (.iload 4, 2) := by decide +kernel
theorem dX7_next_104 : decode cX7_next 104 = .ok (.goto 4, 3) := by decide +kernel
theorem dX7_next_107 : decode cX7_next 107 = .ok (.iload_n 3, 1) := by decide +kernel
theorem dX7_next_108 : decode cX7_next 108 = .ok (.ireturn, 1) := by decide +kernel
theorem dX7_over_0 : decode cX7_over 0 = .ok (.iload_n 1, 1) := by decide +kernel
theorem dX7_over_1 : decode cX7_over 1 = .ok (.iconst 1, 1) := by decide +kernel
theorem dX7_over_2 : decode cX7_over 2 = .ok (.bipush 9, 2) := by decide +kernel
theorem dX7_over_4 : decode cX7_over 4 = .ok (.invokestatic 85, 3) := by decide +kernel
theorem dX7_over_7 : decode cX7_over 7 = .ok (.ifCond .eq 5, 3) := by decide +kernel
theorem dX7_over_10 : decode cX7_over 10 = .ok (.iconst (-1), 1) := by decide +kernel
theorem dX7_over_11 : decode cX7_over 11 = .ok (.ireturn, 1) := by decide +kernel
theorem dX7_over_12 : decode cX7_over 12 = .ok (.aload_n 0, 1) := by decide +kernel
theorem dX7_over_13 : decode cX7_over 13 = .ok (.getfield 26, 3) := by decide +kernel
theorem dX7_over_16 : decode cX7_over 16 = .ok (.invokevirtual 190, 3) := by decide +kernel
theorem dX7_over_19 : decode cX7_over 19 = .ok (.ifCond .ne 6, 3) := by decide +kernel
theorem dX7_over_22 : decode cX7_over 22 = .ok (.bipush (-2), 2) := by decide +kernel
theorem dX7_over_24 : decode cX7_over 24 = .ok (.ireturn, 1) := by decide +kernel
theorem dX7_over_25 : decode cX7_over 25 = .ok (.aload_n 0, 1) := by decide +kernel
theorem dX7_over_26 : decode cX7_over 26 = .ok (.getfield 30, 3) := by decide +kernel
theorem dX7_over_29 : decode cX7_over 29 = .ok (.aload_n 0, 1) := by decide +kernel
theorem dX7_over_30 : decode cX7_over 30 = .ok (.getfield 26, 3) := by decide +kernel
theorem dX7_over_33 : decode cX7_over 33 = .ok (.invokevirtual 197, 3) := by decide +kernel
theorem dX7_over_36 : decode cX7_over 36 = .ok (.iconst 0, 1) := by decide +kernel
theorem dX7_over_37 : decode cX7_over 37 = .ok (.istore_n 2, 1) := by decide +kernel
theorem dX7_over_38 : decode cX7_over 38 = .ok (.iload_n 2, 1) := by decide +kernel
theorem dX7_over_39 : decode cX7_over 39 = .ok (.sipush 400, 3) := by decide +kernel
theorem dX7_over_42 : decode cX7_over 42 = .ok (.if_icmp .gt 34, 3) := by decide +kernel
theorem dX7_over_45 : decode cX7_over 45 = .ok (.aload_n 0, 1) := by decide +kernel
theorem dX7_over_46 : decode cX7_over 46 = .ok (.getfield 30, 3) := by decide +kernel
theorem dX7_over_49 : decode cX7_over 49 = .ok (.invokevirtual 200, 3) := by decide +kernel
theorem dX7_over_52 : decode cX7_over 52 = .ok (.ifCond .eq 5, 3) := by decide +kernel
theorem dX7_over_55 : decode cX7_over 55 = .ok (.iload_n 2, 1) := by decide +kernel
theorem dX7_over_56 : decode cX7_over 56 = .ok (.ireturn, 1) := by decide +kernel
theorem dX7_over_57 : decode cX7_over 57 = .ok (.aload_n 0, 1) := by decide +kernel
theorem dX7_over_58 : decode cX7_over 58 = .ok (.getfield 30, 3) := by decide +kernel
theorem dX7_over_61 : decode cX7_over 61 = .ok (.aload_n 0, 1) := by decide +kernel
theorem dX7_over_62 : decode cX7_over 62 = .ok (.getfield 10, 3) := by decide +kernel
theorem dX7_over_65 : decode cX7_over 65 = .ok (.iload_n 1, 1) := by decide +kernel
theorem dX7_over_66 : decode cX7_over 66 = .ok (.invokevirtual 162, 3) := by decide +kernel
theorem dX7_over_69 : decode cX7_over 69 = .ok (.pop, 1) := by decide +kernel
theorem dX7_over_70 : decode cX7_over 70 = .ok (.iinc 2 1, 3) := by decide +kernel
theorem dX7_over_73 : decode cX7_over 73 = .ok (.goto (-35), 3) := by decide +kernel
theorem dX7_over_76 : decode cX7_over 76 = .ok (.bipush (-4), 2) := by decide +kernel
theorem dX7_over_78 : decode cX7_over 78 = .ok (.ireturn, 1) := by decide +kernel
theorem dX7_wash_0 : decode cX7_wash 0 = .ok (.iload_n 1, 1) := by decide +kernel
theorem dX7_wash_1 : decode cX7_wash 1 = .ok (.iload_n 2, 1) := by decide +kernel
theorem dX7_wash_2 : decode cX7_wash 2 = .ok (.invokestatic 203, 3) := by decide +kernel
theorem dX7_wash_5 : decode cX7_wash 5 = .ok (.ifCond .ne 22, 3) := by decide +kernel
theorem dX7_wash_8 : decode cX7_wash 8 = .ok (.iload_n 3, 1) := by decide +kernel
theorem dX7_wash_9 : decode cX7_wash 9 = .ok (.iconst 0, 1) := by decide +kernel
theorem dX7_wash_10 : decode cX7_wash 10 = .ok (.iconst 5, 1) := by decide +kernel
theorem dX7_wash_11 : decode cX7_wash 11 = .ok (.invokestatic 85, 3) := by decide +kernel
theorem dX7_wash_14 : decode cX7_wash 14 = .ok (.ifCond .ne 13, 3) := by decide +kernel
theorem dX7_wash_17 : decode cX7_wash 17 = .ok (.iload 4, 2) := by decide +kernel
theorem dX7_wash_19 : decode cX7_wash 19 = .ok (.iconst 0, 1) := by decide +kernel
theorem dX7_wash_20 : decode cX7_wash 20 = .ok (.iconst 1, 1) := by decide +kernel
theorem dX7_wash_21 : decode cX7_wash 21 = .ok (.invokestatic 85, 3) := by decide +kernel
theorem dX7_wash_24 : decode cX7_wash 24 = .ok (.ifCond .eq 7, 3) := by decide +kernel
theorem dX7_wash_27 : decode cX7_wash 27 = .ok (.ldc2_w 206, 3) := by decide +kernel
theorem dX7_wash_30 : decode cX7_wash 30 = .ok (.lreturn, 1) := by decide +kernel
theorem dX7_wash_31 : decode cX7_wash 31 = .ok (.iload_n 1, 1) := by decide +kernel
theorem dX7_wash_32 : decode cX7_wash 32 = .ok (.i2l, 1) := by decide +kernel
theorem dX7_wash_33 : decode cX7_wash 33 = .ok (.iload_n 3, 1) := by decide +kernel
theorem dX7_wash_34 : decode cX7_wash 34 = .ok (.iconst 1, 1) := by decide +kernel
theorem dX7_wash_35 : decode cX7_wash 35 = .ok (.iadd, 1) := by decide +kernel
theorem dX7_wash_36 : decode cX7_wash 36 = .ok (.invokestatic 208, 3) := by decide +kernel
theorem dX7_wash_39 : decode cX7_wash 39 = .ok (.iload_n 1, 1) := by decide +kernel
theorem dX7_wash_40 : decode cX7_wash 40 = .ok (.iload_n 2, 1) := by decide +kernel
theorem dX7_wash_41 : decode cX7_wash 41 = .ok (.iadd, 1) := by decide +kernel
theorem dX7_wash_42 : decode cX7_wash 42 = .ok (.i2l, 1) := by decide +kernel
theorem dX7_wash_43 : decode cX7_wash 43 = .ok (.iload_n 3, 1) := by decide +kernel
theorem dX7_wash_44 : decode cX7_wash 44 = .ok (.invokestatic 208, 3) := by decide +kernel
theorem dX7_wash_47 : decode cX7_wash 47 = .ok (.iload 4, 2) := by decide +kernel
theorem dX7_wash_49 : decode cX7_wash 49 = .ok (.invokestatic 212, 3) := by decide +kernel
theorem dX7_wash_52 : decode cX7_wash 52 = .ok (.lreturn, 1) := by decide +kernel
theorem dX7_washes_0 : decode cX7_washes 0 = .ok (.iload_n 1, 1) := by decide +kernel
theorem dX7_washes_1 : decode cX7_washes 1 = .ok (.iload_n 2, 1) := by decide +kernel
theorem dX7_washes_2 : decode cX7_washes 2 = .ok (.invokestatic 203, 3) := by decide +kernel
theorem dX7_washes_5 : decode cX7_washes 5 = .ok (.ifCond .ne 12, 3) := by decide +kernel
theorem dX7_washes_8 : decode cX7_washes 8 = .ok (.iload_n 3, 1) := by decide +kernel
theorem dX7_washes_9 : decode cX7_washes 9 = .ok (.iload 4, 2) := by decide +kernel
theorem dX7_washes_11 : decode cX7_washes 11 = .ok (.invokestatic 216, 3) := by decide +kernel
theorem dX7_washes_14 : decode cX7_washes 14 = .ok (.ifCond .eq 5, 3) := by decide +kernel
theorem dX7_washes_17 : decode cX7_washes 17 = .ok (.iconst (-1), 1) := by decide +kernel
theorem dX7_washes_18 : decode cX7_washes 18 = .ok (.ireturn, 1) := by decide +kernel
theorem dX7_washes_19 : decode cX7_washes 19 = .ok (.iconst 0, 1) := by decide +kernel
theorem dX7_washes_20 : decode cX7_washes 20 = .ok (.istore 5, 2) := by decide +kernel
theorem dX7_washes_22 : decode cX7_washes 22 = .ok (.iload 5, 2) := by decide +kernel
theorem dX7_washes_24 : decode cX7_washes 24 = .ok (.iconst 5, 1) := by decide +kernel
theorem dX7_washes_25 : decode cX7_washes 25 = .ok (.if_icmp .gt 41, 3) := by decide +kernel
theorem dX7_washes_28 : decode cX7_washes 28 = .ok (.iload_n 1, 1) := by decide +kernel
theorem dX7_washes_29 : decode cX7_washes 29 = .ok (.i2l, 1) := by decide +kernel
theorem dX7_washes_30 : decode cX7_washes 30 = .ok (.iload 5, 2) := by decide +kernel
theorem dX7_washes_32 : decode cX7_washes 32 = .ok (.iconst 1, 1) := by decide +kernel
theorem dX7_washes_33 : decode cX7_washes 33 = .ok (.iadd, 1) := by decide +kernel
theorem dX7_washes_34 : decode cX7_washes 34 = .ok (.invokestatic 208, 3) := by decide +kernel
theorem dX7_washes_37 : decode cX7_washes 37 = .ok (.iload 4, 2) := by decide +kernel
theorem dX7_washes_39 : decode cX7_washes 39 = .ok (.i2l, 1) := by decide +kernel
theorem dX7_washes_40 : decode cX7_washes 40 = .ok (.lmul, 1) := by decide +kernel
theorem dX7_washes_41 : decode cX7_washes 41 = .ok (.iload_n 3, 1) := by decide +kernel
theorem dX7_washes_42 : decode cX7_washes 42 = .ok (.i2l, 1) := by decide +kernel
theorem dX7_washes_43 : decode cX7_washes 43 = .ok (.iload_n 1, 1) := by decide +kernel
theorem dX7_washes_44 : decode cX7_washes 44 = .ok (.iload_n 2, 1) := by decide +kernel
theorem dX7_washes_45 : decode cX7_washes 45 = .ok (.iadd, 1) := by decide +kernel
theorem dX7_washes_46 : decode cX7_washes 46 = .ok (.i2l, 1) := by decide +kernel
theorem dX7_washes_47 : decode cX7_washes 47 = .ok (.iload 5, 2) := by decide +kernel
theorem dX7_washes_49 : decode cX7_washes 49 = .ok (.invokestatic 208, 3) := by decide +kernel
theorem dX7_washes_52 : decode cX7_washes 52 = .ok (.lmul, 1) := by decide +kernel
theorem dX7_washes_53 : decode cX7_washes 53 = .ok (.lcmp, 1) := by decide +kernel
theorem dX7_washes_54 : decode cX7_washes 54 = .ok (.ifCond .gt 6, 3) := by decide +kernel
theorem dX7_washes_57 : decode cX7_washes 57 = .ok (.iload 5, 2) := by decide +kernel
theorem dX7_washes_59 : decode cX7_washes 59 = .ok (.ireturn, 1) := by decide +kernel
theorem dX7_washes_60 : decode cX7_washes 60 = .ok (.iinc 5 1, 3) := by decide +kernel
theorem dX7_washes_63 : decode cX7_washes 63 = .ok (.goto (-41), 3) := by decide +kernel
theorem dX7_washes_66 : decode cX7_washes 66 = .ok (.bipush (-4), 2) := by decide +kernel
theorem dX7_washes_68 : decode cX7_washes 68 = .ok (.ireturn, 1) := by decide +kernel
theorem dX7_split_0 : decode cX7_split 0 = .ok (.iload_n 1, 1) := by decide +kernel
theorem dX7_split_1 : decode cX7_split 1 = .ok (.iload_n 2, 1) := by decide +kernel
theorem dX7_split_2 : decode cX7_split 2 = .ok (.invokestatic 203, 3) := by decide +kernel
theorem dX7_split_5 : decode cX7_split 5 = .ok (.ifCond .eq 5, 3) := by decide +kernel
theorem dX7_split_8 : decode cX7_split 8 = .ok (.iconst (-1), 1) := by decide +kernel
theorem dX7_split_9 : decode cX7_split 9 = .ok (.ireturn, 1) := by decide +kernel
theorem dX7_split_10 : decode cX7_split 10 = .ok (.iconst 0, 1) := by decide +kernel
theorem dX7_split_11 : decode cX7_split 11 = .ok (.istore_n 3, 1) := by decide +kernel
theorem dX7_split_12 : decode cX7_split 12 = .ok (.iconst 0, 1) := by decide +kernel
theorem dX7_split_13 : decode cX7_split 13 = .ok (.istore 4, 2) := by decide +kernel
theorem dX7_split_15 : decode cX7_split 15 = .ok (.iconst 0, 1) := by decide +kernel
theorem dX7_split_16 : decode cX7_split 16 = .ok (.istore 5, 2) := by decide +kernel
theorem dX7_split_18 : decode cX7_split 18 = .ok (.iload 5, 2) := by decide +kernel
theorem dX7_split_20 : decode cX7_split 20 = .ok (.iload_n 2, 1) := by decide +kernel
theorem dX7_split_21 : decode cX7_split 21 = .ok (.if_icmp .gt 36, 3) := by decide +kernel
theorem dX7_split_24 : decode cX7_split 24 = .ok (.iload_n 1, 1) := by decide +kernel
theorem dX7_split_25 : decode cX7_split 25 = .ok (.iload 5, 2) := by decide +kernel
theorem dX7_split_27 : decode cX7_split 27 = .ok (.iadd, 1) := by decide +kernel
theorem dX7_split_28 : decode cX7_split 28 = .ok (.iload_n 1, 1) := by decide +kernel
theorem dX7_split_29 : decode cX7_split 29 = .ok (.iload_n 2, 1) := by decide +kernel
theorem dX7_split_30 : decode cX7_split 30 = .ok (.iadd, 1) := by decide +kernel
theorem dX7_split_31 : decode cX7_split 31 = .ok (.iload 5, 2) := by decide +kernel
theorem dX7_split_33 : decode cX7_split 33 = .ok (.isub, 1) := by decide +kernel
theorem dX7_split_34 : decode cX7_split 34 = .ok (.imul, 1) := by decide +kernel
theorem dX7_split_35 : decode cX7_split 35 = .ok (.istore 6, 2) := by decide +kernel
theorem dX7_split_37 : decode cX7_split 37 = .ok (.iload 6, 2) := by decide +kernel
theorem dX7_split_39 : decode cX7_split 39 = .ok (.iload 4, 2) := by decide +kernel
theorem dX7_split_41 : decode cX7_split 41 = .ok (.if_icmp .le 10, 3) := by decide +kernel
theorem dX7_split_44 : decode cX7_split 44 = .ok (.iload 6, 2) := by decide +kernel
theorem dX7_split_46 : decode cX7_split 46 = .ok (.istore 4, 2) := by decide +kernel
theorem dX7_split_48 : decode cX7_split 48 = .ok (.iload 5, 2) := by decide +kernel
theorem dX7_split_50 : decode cX7_split 50 = .ok (.istore_n 3, 1) := by decide +kernel
theorem dX7_split_51 : decode cX7_split 51 = .ok (.iinc 5 1, 3) := by decide +kernel
theorem dX7_split_54 : decode cX7_split 54 = .ok (.goto (-36), 3) := by decide +kernel
theorem dX7_split_57 : decode cX7_split 57 = .ok (.iload_n 3, 1) := by decide +kernel
theorem dX7_split_58 : decode cX7_split 58 = .ok (.ireturn, 1) := by decide +kernel
theorem dX7_worked_0 : decode cX7_worked 0 = .ok (.iload_n 1, 1) := by decide +kernel
theorem dX7_worked_1 : decode cX7_worked 1 = .ok (.iload_n 2, 1) := by decide +kernel
theorem dX7_worked_2 : decode cX7_worked 2 = .ok (.invokestatic 219, 3) := by decide +kernel
theorem dX7_worked_5 : decode cX7_worked 5 = .ok (.ifCond .ne 16, 3) := by decide +kernel
theorem dX7_worked_8 : decode cX7_worked 8 = .ok (.iload_n 3, 1) := by decide +kernel
theorem dX7_worked_9 : decode cX7_worked 9 = .ok (.ifCond .lt 12, 3) := by decide +kernel
theorem dX7_worked_12 : decode cX7_worked 12 = .ok (.iload_n 3, 1) := by decide +kernel
theorem dX7_worked_13 : decode cX7_worked 13 = .ok (.aload_n 0, 1) := by decide +kernel
theorem dX7_worked_14 : decode cX7_worked 14 = .ok (.getfield 61, 3) := by decide +kernel
theorem dX7_worked_17 : decode cX7_worked 17 = .ok (.arraylength, 1) := by decide +kernel
theorem dX7_worked_18 : decode cX7_worked 18 = .ok (.if_icmp .lt 5, 3) := by decide +kernel
theorem dX7_worked_21 : decode cX7_worked 21 = .ok (.iconst (-1), 1) := by decide +kernel
theorem dX7_worked_22 : decode cX7_worked 22 = .ok (.ireturn, 1) := by decide +kernel
theorem dX7_worked_23 : decode cX7_worked 23 = .ok (.aload_n 0, 1) := by decide +kernel
theorem dX7_worked_24 : decode cX7_worked 24 = .ok (.iload_n 1, 1) := by decide +kernel
theorem dX7_worked_25 : decode cX7_worked 25 = .ok (.iload_n 2, 1) := by decide +kernel
theorem dX7_worked_26 : decode cX7_worked 26 = .ok (.invokevirtual 222, 3) := by decide +kernel
theorem dX7_worked_29 : decode cX7_worked 29 = .ok (.aload_n 0, 1) := by decide +kernel
theorem dX7_worked_30 : decode cX7_worked 30 = .ok (.getfield 61, 3) := by decide +kernel
theorem dX7_worked_33 : decode cX7_worked 33 = .ok (.iload_n 3, 1) := by decide +kernel
theorem dX7_worked_34 : decode cX7_worked 34 = .ok (.iaload, 1) := by decide +kernel
theorem dX7_worked_35 : decode cX7_worked 35 = .ok (.ireturn, 1) := by decide +kernel
theorem dX7_keeps_0 : decode cX7_keeps 0 = .ok (.iload_n 1, 1) := by decide +kernel
theorem dX7_keeps_1 : decode cX7_keeps 1 = .ok (.iload_n 2, 1) := by decide +kernel
theorem dX7_keeps_2 : decode cX7_keeps 2 = .ok (.invokestatic 219, 3) := by decide +kernel
theorem dX7_keeps_5 : decode cX7_keeps 5 = .ok (.ifCond .eq 5, 3) := by decide +kernel
theorem dX7_keeps_8 : decode cX7_keeps 8 = .ok (.iconst (-1), 1) := by decide +kernel
theorem dX7_keeps_9 : decode cX7_keeps 9 = .ok (.ireturn, 1) := by decide +kernel
theorem dX7_keeps_10 : decode cX7_keeps 10 = .ok (.aload_n 0, 1) := by decide +kernel
theorem dX7_keeps_11 : decode cX7_keeps 11 = .ok (.iload_n 1, 1) := by decide +kernel
theorem dX7_keeps_12 : decode cX7_keeps 12 = .ok (.iload_n 2, 1) := by decide +kernel
theorem dX7_keeps_13 : decode cX7_keeps 13 = .ok (.invokevirtual 222, 3) := by decide +kernel
theorem dX7_keeps_16 : decode cX7_keeps 16 = .ok (.iconst 0, 1) := by decide +kernel
theorem dX7_keeps_17 : decode cX7_keeps 17 = .ok (.istore_n 3, 1) := by decide +kernel
theorem dX7_keeps_18 : decode cX7_keeps 18 = .ok (.iconst 0, 1) := by decide +kernel
theorem dX7_keeps_19 : decode cX7_keeps 19 = .ok (.istore 4, 2) := by decide +kernel
theorem dX7_keeps_21 : decode cX7_keeps 21 = .ok (.iload 4, 2) := by decide +kernel
theorem dX7_keeps_23 : decode cX7_keeps 23 = .ok (.aload_n 0, 1) := by decide +kernel
theorem dX7_keeps_24 : decode cX7_keeps 24 = .ok (.getfield 61, 3) := by decide +kernel
theorem dX7_keeps_27 : decode cX7_keeps 27 = .ok (.arraylength, 1) := by decide +kernel
theorem dX7_keeps_28 : decode cX7_keeps 28 = .ok (.if_icmp .ge 22, 3) := by decide +kernel
theorem dX7_keeps_31 : decode cX7_keeps 31 = .ok (.aload_n 0, 1) := by decide +kernel
theorem dX7_keeps_32 : decode cX7_keeps 32 = .ok (.getfield 61, 3) := by decide +kernel
theorem dX7_keeps_35 : decode cX7_keeps 35 = .ok (.iload 4, 2) := by decide +kernel
theorem dX7_keeps_37 : decode cX7_keeps 37 = .ok (.iaload, 1) := by decide +kernel
theorem dX7_keeps_38 : decode cX7_keeps 38 = .ok (.ifCond .le 6, 3) := by decide +kernel
theorem dX7_keeps_41 : decode cX7_keeps 41 = .ok (.iload 4, 2) := by decide +kernel
theorem dX7_keeps_43 : decode cX7_keeps 43 = .ok (.istore_n 3, 1) := by decide +kernel
theorem dX7_keeps_44 : decode cX7_keeps 44 = .ok (.iinc 4 1, 3) := by decide +kernel
theorem dX7_keeps_47 : decode cX7_keeps 47 = .ok (.goto (-26), 3) := by decide +kernel
theorem dX7_keeps_50 : decode cX7_keeps 50 = .ok (.bipush 64, 2) := by decide +kernel
theorem dX7_keeps_52 : decode cX7_keeps 52 = .ok (.iload_n 3, 1) := by decide +kernel
theorem dX7_keeps_53 : decode cX7_keeps 53 = .ok (.ishr, 1) := by decide +kernel
theorem dX7_keeps_54 : decode cX7_keeps 54 = .ok (.ireturn, 1) := by decide +kernel
theorem dX7_rod_0 : decode cX7_rod 0 = .ok (.iload_n 1, 1) := by decide +kernel
theorem dX7_rod_1 : decode cX7_rod 1 = .ok (.iconst 0, 1) := by decide +kernel
theorem dX7_rod_2 : decode cX7_rod 2 = .ok (.bipush 30, 2) := by decide +kernel
theorem dX7_rod_4 : decode cX7_rod 4 = .ok (.invokestatic 85, 3) := by decide +kernel
theorem dX7_rod_7 : decode cX7_rod 7 = .ok (.ifCond .ne 23, 3) := by decide +kernel
theorem dX7_rod_10 : decode cX7_rod 10 = .ok (.iload_n 2, 1) := by decide +kernel
theorem dX7_rod_11 : decode cX7_rod 11 = .ok (.iload_n 3, 1) := by decide +kernel
theorem dX7_rod_12 : decode cX7_rod 12 = .ok (.iload 4, 2) := by decide +kernel
theorem dX7_rod_14 : decode cX7_rod 14 = .ok (.invokestatic 226, 3) := by decide +kernel
theorem dX7_rod_17 : decode cX7_rod 17 = .ok (.ifCond .ne 13, 3) := by decide +kernel
theorem dX7_rod_20 : decode cX7_rod 20 = .ok (.iload 5, 2) := by decide +kernel
theorem dX7_rod_22 : decode cX7_rod 22 = .ok (.iconst 0, 1) := by decide +kernel
theorem dX7_rod_23 : decode cX7_rod 23 = .ok (.iconst 1, 1) := by decide +kernel
theorem dX7_rod_24 : decode cX7_rod 24 = .ok (.invokestatic 85, 3) := by decide +kernel
theorem dX7_rod_27 : decode cX7_rod 27 = .ok (.ifCond .eq 5, 3) := by decide +kernel
theorem dX7_rod_30 : decode cX7_rod 30 = .ok (.iconst (-1), 1) := by decide +kernel
theorem dX7_rod_31 : decode cX7_rod 31 = .ok (.ireturn, 1) := by decide +kernel
theorem dX7_rod_32 : decode cX7_rod 32 = .ok (.iload_n 1, 1) := by decide +kernel
theorem dX7_rod_33 : decode cX7_rod 33 = .ok (.iload_n 2, 1) := by decide +kernel
theorem dX7_rod_34 : decode cX7_rod 34 = .ok (.iload_n 3, 1) := by decide +kernel
theorem dX7_rod_35 : decode cX7_rod 35 = .ok (.iload 4, 2) := by decide +kernel
theorem dX7_rod_37 : decode cX7_rod 37 = .ok (.invokestatic 229, 3) := by decide +kernel
theorem dX7_rod_40 : decode cX7_rod 40 = .ok (.i2l, 1) := by decide +kernel
theorem dX7_rod_41 : decode cX7_rod 41 = .ok (.iload_n 2, 1) := by decide +kernel
theorem dX7_rod_42 : decode cX7_rod 42 = .ok (.iload_n 3, 1) := by decide +kernel
theorem dX7_rod_43 : decode cX7_rod 43 = .ok (.iadd, 1) := by decide +kernel
theorem dX7_rod_44 : decode cX7_rod 44 = .ok (.iload 4, 2) := by decide +kernel
theorem dX7_rod_46 : decode cX7_rod 46 = .ok (.iadd, 1) := by decide +kernel
theorem dX7_rod_47 : decode cX7_rod 47 = .ok (.i2l, 1) := by decide +kernel
theorem dX7_rod_48 : decode cX7_rod 48 = .ok (.iload 5, 2) := by decide +kernel
theorem dX7_rod_50 : decode cX7_rod 50 = .ok (.invokestatic 212, 3) := by decide +kernel
theorem dX7_rod_53 : decode cX7_rod 53 = .ok (.l2i, 1) := by decide +kernel
theorem dX7_rod_54 : decode cX7_rod 54 = .ok (.ireturn, 1) := by decide +kernel
theorem dX7_near_0 : decode cX7_near 0 = .ok (.iload_n 1, 1) := by decide +kernel
theorem dX7_near_1 : decode cX7_near 1 = .ok (.iload_n 2, 1) := by decide +kernel
theorem dX7_near_2 : decode cX7_near 2 = .ok (.iload_n 3, 1) := by decide +kernel
theorem dX7_near_3 : decode cX7_near 3 = .ok (.invokestatic 226, 3) := by decide +kernel
theorem dX7_near_6 : decode cX7_near 6 = .ok (.ifCond .ne 13, 3) := by decide +kernel
theorem dX7_near_9 : decode cX7_near 9 = .ok (.iload 4, 2) := by decide +kernel
theorem dX7_near_11 : decode cX7_near 11 = .ok (.iload 5, 2) := by decide +kernel
theorem dX7_near_13 : decode cX7_near 13 = .ok (.invokestatic 216, 3) := by decide +kernel
theorem dX7_near_16 : decode cX7_near 16 = .ok (.ifCond .eq 5, 3) := by decide +kernel
theorem dX7_near_19 : decode cX7_near 19 = .ok (.iconst (-1), 1) := by decide +kernel
theorem dX7_near_20 : decode cX7_near 20 = .ok (.ireturn, 1) := by decide +kernel
theorem dX7_near_21 : decode cX7_near 21 = .ok (.bipush (-4), 2) := by decide +kernel
theorem dX7_near_23 : decode cX7_near 23 = .ok (.istore 6, 2) := by decide +kernel
theorem dX7_near_25 : decode cX7_near 25 = .ok (.iconst 0, 1) := by decide +kernel
theorem dX7_near_26 : decode cX7_near 26 = .ok (.istore 7, 2) := by decide +kernel
theorem dX7_near_28 : decode cX7_near 28 = .ok (.iload 7, 2) := by decide +kernel
theorem dX7_near_30 : decode cX7_near 30 = .ok (.bipush 30, 2) := by decide +kernel
theorem dX7_near_32 : decode cX7_near 32 = .ok (.if_icmp .gt 35, 3) := by decide +kernel
theorem dX7_near_35 : decode cX7_near 35 = .ok (.iload 7, 2) := by decide +kernel
theorem dX7_near_37 : decode cX7_near 37 = .ok (.iload_n 1, 1) := by decide +kernel
theorem dX7_near_38 : decode cX7_near 38 = .ok (.iload_n 2, 1) := by decide +kernel
theorem dX7_near_39 : decode cX7_near 39 = .ok (.iload_n 3, 1) := by decide +kernel
theorem dX7_near_40 : decode cX7_near 40 = .ok (.invokestatic 229, 3) := by decide +kernel
theorem dX7_near_43 : decode cX7_near 43 = .ok (.iload 5, 2) := by decide +kernel
theorem dX7_near_45 : decode cX7_near 45 = .ok (.imul, 1) := by decide +kernel
theorem dX7_near_46 : decode cX7_near 46 = .ok (.iload 4, 2) := by decide +kernel
theorem dX7_near_48 : decode cX7_near 48 = .ok (.iload_n 1, 1) := by decide +kernel
theorem dX7_near_49 : decode cX7_near 49 = .ok (.iload_n 2, 1) := by decide +kernel
theorem dX7_near_50 : decode cX7_near 50 = .ok (.iadd, 1) := by decide +kernel
theorem dX7_near_51 : decode cX7_near 51 = .ok (.iload_n 3, 1) := by decide +kernel
theorem dX7_near_52 : decode cX7_near 52 = .ok (.iadd, 1) := by decide +kernel
theorem dX7_near_53 : decode cX7_near 53 = .ok (.imul, 1) := by decide +kernel
theorem dX7_near_54 : decode cX7_near 54 = .ok (.if_icmp .gt 7, 3) := by decide +kernel
theorem dX7_near_57 : decode cX7_near 57 = .ok (.iload 7, 2) := by decide +kernel
theorem dX7_near_59 : decode cX7_near 59 = .ok (.istore 6, 2) := by decide +kernel
theorem dX7_near_61 : decode cX7_near 61 = .ok (.iinc 7 1, 3) := by decide +kernel
theorem dX7_near_64 : decode cX7_near 64 = .ok (.goto (-36), 3) := by decide +kernel
theorem dX7_near_67 : decode cX7_near 67 = .ok (.iload 6, 2) := by decide +kernel
theorem dX7_near_69 : decode cX7_near 69 = .ok (.ireturn, 1) := by decide +kernel
theorem dX7_witch_0 : decode cX7_witch 0 = .ok (.iload_n 1, 1) := by decide +kernel
theorem dX7_witch_1 : decode cX7_witch 1 = .ok (.iconst 1, 1) := by decide +kernel
theorem dX7_witch_2 : decode cX7_witch 2 = .ok (.bipush 12, 2) := by decide +kernel
theorem dX7_witch_4 : decode cX7_witch 4 = .ok (.invokestatic 85, 3) := by decide +kernel
theorem dX7_witch_7 : decode cX7_witch 7 = .ok (.ifCond .ne 43, 3) := by decide +kernel
theorem dX7_witch_10 : decode cX7_witch 10 = .ok (.iload_n 2, 1) := by decide +kernel
theorem dX7_witch_11 : decode cX7_witch 11 = .ok (.iconst 0, 1) := by decide +kernel
theorem dX7_witch_12 : decode cX7_witch 12 = .ok (.iload_n 1, 1) := by decide +kernel
theorem dX7_witch_13 : decode cX7_witch 13 = .ok (.invokestatic 85, 3) := by decide +kernel
theorem dX7_witch_16 : decode cX7_witch 16 = .ok (.ifCond .ne 34, 3) := by decide +kernel
theorem dX7_witch_19 : decode cX7_witch 19 = .ok (.iload 4, 2) := by decide +kernel
theorem dX7_witch_21 : decode cX7_witch 21 = .ok (.iconst 1, 1) := by decide +kernel
theorem dX7_witch_22 : decode cX7_witch 22 = .ok (.bipush 9, 2) := by decide +kernel
theorem dX7_witch_24 : decode cX7_witch 24 = .ok (.invokestatic 85, 3) := by decide +kernel
theorem dX7_witch_27 : decode cX7_witch 27 = .ok (.ifCond .ne 23, 3) := by decide +kernel
theorem dX7_witch_30 : decode cX7_witch 30 = .ok (.iload_n 3, 1) := by decide +kernel
theorem dX7_witch_31 : decode cX7_witch 31 = .ok (.iconst 0, 1) := by decide +kernel
theorem dX7_witch_32 : decode cX7_witch 32 = .ok (.iload 4, 2) := by decide +kernel
theorem dX7_witch_34 : decode cX7_witch 34 = .ok (.invokestatic 85, 3) := by decide +kernel
theorem dX7_witch_37 : decode cX7_witch 37 = .ok (.ifCond .ne 13, 3) := by decide +kernel
theorem dX7_witch_40 : decode cX7_witch 40 = .ok (.iload 5, 2) := by decide +kernel
theorem dX7_witch_42 : decode cX7_witch 42 = .ok (.iconst 0, 1) := by decide +kernel
theorem dX7_witch_43 : decode cX7_witch 43 = .ok (.iconst 1, 1) := by decide +kernel
theorem dX7_witch_44 : decode cX7_witch 44 = .ok (.invokestatic 85, 3) := by decide +kernel
theorem dX7_witch_47 : decode cX7_witch 47 = .ok (.ifCond .eq 7, 3) := by decide +kernel
theorem dX7_witch_50 : decode cX7_witch 50 = .ok (.ldc2_w 206, 3) := by decide +kernel
theorem dX7_witch_53 : decode cX7_witch 53 = .ok (.lreturn, 1) := by decide +kernel
theorem dX7_witch_54 : decode cX7_witch 54 = .ok (.lconst 0, 1) := by decide +kernel
theorem dX7_witch_55 : decode cX7_witch 55 = .ok (.lstore 6, 2) := by decide +kernel
theorem dX7_witch_57 : decode cX7_witch 57 = .ok (.lconst 1, 1) := by decide +kernel
theorem dX7_witch_58 : decode cX7_witch 58 = .ok (.lstore 8, 2) := by decide +kernel
theorem dX7_witch_60 : decode cX7_witch 60 = .ok (.iconst 0, 1) := by decide +kernel
theorem dX7_witch_61 : decode cX7_witch 61 = .ok (.istore 10, 2) := by decide +kernel
theorem dX7_witch_63 : decode cX7_witch 63 = .ok (.iload 10, 2) := by decide +kernel
theorem dX7_witch_65 : decode cX7_witch 65 = .ok (.iload_n 1, 1) := by decide +kernel
theorem dX7_witch_66 : decode cX7_witch 66 = .ok (.if_icmp .gt 59, 3) := by decide +kernel
theorem dX7_witch_69 : decode cX7_witch 69 = .ok (.iload 10, 2) := by decide +kernel
theorem dX7_witch_71 : decode cX7_witch 71 = .ok (.iload_n 2, 1) := by decide +kernel
theorem dX7_witch_72 : decode cX7_witch 72 = .ok (.if_icmp .lt 31, 3) := by decide +kernel
theorem dX7_witch_75 : decode cX7_witch 75 = .ok (.lload 6, 2) := by decide +kernel
theorem dX7_witch_77 : decode cX7_witch 77 = .ok (.lload 8, 2) := by decide +kernel
theorem dX7_witch_79 : decode cX7_witch 79 = .ok (.iload_n 3, 1) := by decide +kernel
theorem dX7_witch_80 : decode cX7_witch 80 = .ok (.i2l, 1) := by decide +kernel
theorem dX7_witch_81 : decode cX7_witch 81 = .ok (.iload 10, 2) := by decide +kernel
theorem dX7_witch_83 : decode cX7_witch 83 = .ok (.invokestatic 208, 3) := by decide +kernel
theorem dX7_witch_86 : decode cX7_witch 86 = .ok (.lmul, 1) := by decide +kernel
theorem dX7_witch_87 : decode cX7_witch 87 = .ok (.iload 4, 2) := by decide +kernel
theorem dX7_witch_89 : decode cX7_witch 89 = .ok (.iload_n 3, 1) := by decide +kernel
theorem dX7_witch_90 : decode cX7_witch 90 = .ok (.isub, 1) := by decide +kernel
theorem dX7_witch_91 : decode cX7_witch 91 = .ok (.i2l, 1) := by decide +kernel
theorem dX7_witch_92 : decode cX7_witch 92 = .ok (.iload_n 1, 1) := by decide +kernel
theorem dX7_witch_93 : decode cX7_witch 93 = .ok (.iload 10, 2) := by decide +kernel
theorem dX7_witch_95 : decode cX7_witch 95 = .ok (.isub, 1) := by decide +kernel
theorem dX7_witch_96 : decode cX7_witch 96 = .ok (.invokestatic 208, 3) := by decide +kernel
theorem dX7_witch_99 : decode cX7_witch 99 = .ok (.lmul, 1) := by decide +kernel
theorem dX7_witch_100 : decode cX7_witch 100 = .ok (.ladd, 1) := by decide +kernel
theorem dX7_witch_101 : decode cX7_witch 101 = .ok (.lstore 6, 2) := by decide +kernel
theorem dX7_witch_103 : decode cX7_witch 103 = .ok (.lload 8, 2) := by decide +kernel
theorem dX7_witch_105 : decode cX7_witch 105 = .ok (.iload_n 1, 1) := by decide +kernel
theorem dX7_witch_106 : decode cX7_witch 106 = .ok (.iload 10, 2) := by decide +kernel
theorem dX7_witch_108 : decode cX7_witch 108 = .ok (.isub, 1) := by decide +kernel
theorem dX7_witch_109 : decode cX7_witch 109 = .ok (.i2l, 1) := by decide +kernel
theorem dX7_witch_110 : decode cX7_witch 110 = .ok (.lmul, 1) := by decide +kernel
theorem dX7_witch_111 : decode cX7_witch 111 = .ok (.iload 10, 2) := by decide +kernel
theorem dX7_witch_113 : decode cX7_witch 113 = .ok (.iconst 1, 1) := by decide +kernel
theorem dX7_witch_114 : decode cX7_witch 114 = .ok (.iadd, 1) := by decide +kernel
theorem dX7_witch_115 : decode cX7_witch 115 = .ok (.i2l, 1) := by decide +kernel
theorem dX7_witch_116 : decode cX7_witch 116 = .ok (.ldiv, 1) := by decide +kernel
theorem dX7_witch_117 : decode cX7_witch 117 = .ok (.lstore 8, 2) := by decide +kernel
theorem dX7_witch_119 : decode cX7_witch 119 = .ok (.iinc 10 1, 3) := by decide +kernel
theorem dX7_witch_122 : decode cX7_witch 122 = .ok (.goto (-59), 3) := by decide +kernel
theorem dX7_witch_125 : decode cX7_witch 125 = .ok (.lload 6, 2) := by decide +kernel
theorem dX7_witch_127 : decode cX7_witch 127 = .ok (.iload 4, 2) := by decide +kernel
theorem dX7_witch_129 : decode cX7_witch 129 = .ok (.i2l, 1) := by decide +kernel
theorem dX7_witch_130 : decode cX7_witch 130 = .ok (.iload_n 1, 1) := by decide +kernel
theorem dX7_witch_131 : decode cX7_witch 131 = .ok (.invokestatic 208, 3) := by decide +kernel
theorem dX7_witch_134 : decode cX7_witch 134 = .ok (.iload 5, 2) := by decide +kernel
theorem dX7_witch_136 : decode cX7_witch 136 = .ok (.invokestatic 212, 3) := by decide +kernel
theorem dX7_witch_139 : decode cX7_witch 139 = .ok (.lreturn, 1) := by decide +kernel
theorem dX7_keep_0 : decode cX7_keep 0 = .ok (.aload_n 0, 1) := by decide +kernel
theorem dX7_keep_1 : decode cX7_keep 1 = .ok (.iload_n 1, 1) := by decide +kernel
theorem dX7_keep_2 : decode cX7_keep 2 = .ok (.invokevirtual 233, 3) := by decide +kernel
theorem dX7_keep_5 : decode cX7_keep 5 = .ok (.astore_n 2, 1) := by decide +kernel
theorem dX7_keep_6 : decode cX7_keep 6 = .ok (.aload_n 2, 1) := by decide +kernel
theorem dX7_keep_7 : decode cX7_keep 7 = .ok (.ifnonnull 5, 3) := by decide +kernel
theorem dX7_keep_10 : decode cX7_keep 10 = .ok (.iconst (-1), 1) := by decide +kernel
theorem dX7_keep_11 : decode cX7_keep 11 = .ok (.ireturn, 1) := by decide +kernel
theorem dX7_keep_12 : decode cX7_keep 12 = .ok (.aload_n 2, 1) := by decide +kernel
theorem dX7_keep_13 : decode cX7_keep 13 = .ok (.getfield 115, 3) := by decide +kernel
theorem dX7_keep_16 : decode cX7_keep 16 = .ok (.ifCond .eq 7, 3) := by decide +kernel
theorem dX7_keep_19 : decode cX7_keep 19 = .ok (.iconst 1, 1) := by decide +kernel
theorem dX7_keep_20 : decode cX7_keep 20 = .ok (.goto 4, 3) := by decide +kernel
theorem dX7_keep_23 : decode cX7_keep 23 = .ok (.iconst 0, 1) := by decide +kernel
theorem dX7_keep_24 : decode cX7_keep 24 = .ok (.istore_n 3, 1) := by decide +kernel
theorem dX7_keep_25 : decode cX7_keep 25 = .ok (.aload_n 2, 1) := by decide +kernel
theorem dX7_keep_26 : decode cX7_keep 26 = .ok (.getfield 237, 3) := by decide +kernel
theorem dX7_keep_29 : decode cX7_keep 29 = .ok (.aload_n 0, 1) := by decide +kernel
theorem dX7_keep_30 : decode cX7_keep 30 = .ok (.getfield 26, 3) := by decide +kernel
theorem dX7_keep_33 : decode cX7_keep 33 = .ok (.invokevirtual 197, 3) := by decide +kernel
theorem dX7_keep_36 : decode cX7_keep 36 = .ok (.aload_n 2, 1) := by decide +kernel
theorem dX7_keep_37 : decode cX7_keep 37 = .ok (.iconst 1, 1) := by decide +kernel
theorem dX7_keep_38 : decode cX7_keep 38 = .ok (.putfield 115, 3) := by decide +kernel
theorem dX7_keep_41 : decode cX7_keep 41 = .ok (.iload_n 3, 1) := by decide +kernel
theorem dX7_keep_42 : decode cX7_keep 42 = .ok (.ireturn, 1) := by decide +kernel
theorem dX7_back_0 : decode cX7_back 0 = .ok (.aload_n 0, 1) := by decide +kernel
theorem dX7_back_1 : decode cX7_back 1 = .ok (.iload_n 1, 1) := by decide +kernel
theorem dX7_back_2 : decode cX7_back 2 = .ok (.invokevirtual 233, 3) := by decide +kernel
theorem dX7_back_5 : decode cX7_back 5 = .ok (.astore_n 2, 1) := by decide +kernel
theorem dX7_back_6 : decode cX7_back 6 = .ok (.aload_n 2, 1) := by decide +kernel
theorem dX7_back_7 : decode cX7_back 7 = .ok (.ifnonnull 5, 3) := by decide +kernel
theorem dX7_back_10 : decode cX7_back 10 = .ok (.iconst (-1), 1) := by decide +kernel
theorem dX7_back_11 : decode cX7_back 11 = .ok (.ireturn, 1) := by decide +kernel
theorem dX7_back_12 : decode cX7_back 12 = .ok (.aload_n 2, 1) := by decide +kernel
theorem dX7_back_13 : decode cX7_back 13 = .ok (.getfield 115, 3) := by decide +kernel
theorem dX7_back_16 : decode cX7_back 16 = .ok (.ifCond .ne 6, 3) := by decide +kernel
theorem dX7_back_19 : decode cX7_back 19 = .ok (.bipush (-2), 2) := by decide +kernel
theorem dX7_back_21 : decode cX7_back 21 = .ok (.ireturn, 1) := by decide +kernel
theorem dX7_back_22 : decode cX7_back 22 = .ok (.aload_n 0, 1) := by decide +kernel
theorem dX7_back_23 : decode cX7_back 23 = .ok (.getfield 26, 3) := by decide +kernel
theorem dX7_back_26 : decode cX7_back 26 = .ok (.aload_n 2, 1) := by decide +kernel
theorem dX7_back_27 : decode cX7_back 27 = .ok (.getfield 237, 3) := by decide +kernel
theorem dX7_back_30 : decode cX7_back 30 = .ok (.invokevirtual 197, 3) := by decide +kernel
theorem dX7_back_33 : decode cX7_back 33 = .ok (.aload_n 0, 1) := by decide +kernel
theorem dX7_back_34 : decode cX7_back 34 = .ok (.getfield 26, 3) := by decide +kernel
theorem dX7_back_37 : decode cX7_back 37 = .ok (.getfield 238, 3) := by decide +kernel
theorem dX7_back_40 : decode cX7_back 40 = .ok (.ireturn, 1) := by decide +kernel
theorem dX7_sheet_0 : decode cX7_sheet 0 = .ok (.aload_n 0, 1) := by decide +kernel
theorem dX7_sheet_1 : decode cX7_sheet 1 = .ok (.iload_n 1, 1) := by decide +kernel
theorem dX7_sheet_2 : decode cX7_sheet 2 = .ok (.invokevirtual 241, 3) := by decide +kernel
theorem dX7_sheet_5 : decode cX7_sheet 5 = .ok (.astore 4, 2) := by decide +kernel
theorem dX7_sheet_7 : decode cX7_sheet 7 = .ok (.aload 4, 2) := by decide +kernel
theorem dX7_sheet_9 : decode cX7_sheet 9 = .ok (.ifnull 18, 3) := by decide +kernel
theorem dX7_sheet_12 : decode cX7_sheet 12 = .ok (.iload_n 2, 1) := by decide +kernel
theorem dX7_sheet_13 : decode cX7_sheet 13 = .ok (.iconst 0, 1) := by decide +kernel
theorem dX7_sheet_14 : decode cX7_sheet 14 = .ok (.iconst 2, 1) := by decide +kernel
theorem dX7_sheet_15 : decode cX7_sheet 15 = .ok (.invokestatic 85, 3) := by decide +kernel
theorem dX7_sheet_18 : decode cX7_sheet 18 = .ok (.ifCond .ne 9, 3) := by decide +kernel
theorem dX7_sheet_21 : decode cX7_sheet 21 = .ok (.iload_n 3, 1) := by decide +kernel
theorem dX7_sheet_22 : decode cX7_sheet 22 = .ok (.bipush 40, 2) := by decide +kernel
theorem dX7_sheet_24 : decode cX7_sheet 24 = .ok (.if_icmp .le 5, 3) := by decide +kernel
theorem dX7_sheet_27 : decode cX7_sheet 27 = .ok (.iconst (-1), 1) := by decide +kernel
theorem dX7_sheet_28 : decode cX7_sheet 28 = .ok (.ireturn, 1) := by decide +kernel
theorem dX7_sheet_29 : decode cX7_sheet 29 = .ok (.iload_n 3, 1) := by decide +kernel
theorem dX7_sheet_30 : decode cX7_sheet 30 = .ok (.ifCond .ge 6, 3) := by decide +kernel
theorem dX7_sheet_33 : decode cX7_sheet 33 = .ok (.bipush (-14), 2) := by decide +kernel
theorem dX7_sheet_35 : decode cX7_sheet 35 = .ok (.ireturn, 1) := by decide +kernel
theorem dX7_sheet_36 : decode cX7_sheet 36 = .ok (.aload 4, 2) := by decide +kernel
theorem dX7_sheet_38 : decode cX7_sheet 38 = .ok (.iload_n 2, 1) := by decide +kernel
theorem dX7_sheet_39 : decode cX7_sheet 39 = .ok (.iload_n 3, 1) := by decide +kernel
theorem dX7_sheet_40 : decode cX7_sheet 40 = .ok (.invokevirtual 245, 3) := by decide +kernel
theorem dX7_sheet_43 : decode cX7_sheet 43 = .ok (.iconst 1, 1) := by decide +kernel
theorem dX7_sheet_44 : decode cX7_sheet 44 = .ok (.ireturn, 1) := by decide +kernel
theorem dX7_lay_0 : decode cX7_lay 0 = .ok (.aload_n 0, 1) := by decide +kernel
theorem dX7_lay_1 : decode cX7_lay 1 = .ok (.iload_n 1, 1) := by decide +kernel
theorem dX7_lay_2 : decode cX7_lay 2 = .ok (.invokevirtual 241, 3) := by decide +kernel
theorem dX7_lay_5 : decode cX7_lay 5 = .ok (.astore 4, 2) := by decide +kernel
theorem dX7_lay_7 : decode cX7_lay 7 = .ok (.aload 4, 2) := by decide +kernel
theorem dX7_lay_9 : decode cX7_lay 9 = .ok (.ifnonnull 5, 3) := by decide +kernel
theorem dX7_lay_12 : decode cX7_lay 12 = .ok (.iconst (-1), 1) := by decide +kernel
theorem dX7_lay_13 : decode cX7_lay 13 = .ok (.ireturn, 1) := by decide +kernel
theorem dX7_lay_14 : decode cX7_lay 14 = .ok (.aload 4, 2) := by decide +kernel
theorem dX7_lay_16 : decode cX7_lay 16 = .ok (.iload_n 2, 1) := by decide +kernel
theorem dX7_lay_17 : decode cX7_lay 17 = .ok (.iload_n 3, 1) := by decide +kernel
theorem dX7_lay_18 : decode cX7_lay 18 = .ok (.invokevirtual 248, 3) := by decide +kernel
theorem dX7_lay_21 : decode cX7_lay 21 = .ok (.istore 5, 2) := by decide +kernel
theorem dX7_lay_23 : decode cX7_lay 23 = .ok (.iload 5, 2) := by decide +kernel
theorem dX7_lay_25 : decode cX7_lay 25 = .ok (.ifCond .ne 7, 3) := by decide +kernel
theorem dX7_lay_28 : decode cX7_lay 28 = .ok (.iconst 1, 1) := by decide +kernel
theorem dX7_lay_29 : decode cX7_lay 29 = .ok (.goto 8, 3) := by decide +kernel
theorem dX7_lay_32 : decode cX7_lay 32 = .ok (.bipush (-10), 2) := by decide +kernel
theorem dX7_lay_34 : decode cX7_lay 34 = .ok (.iload 5, 2) := by decide +kernel
theorem dX7_lay_36 : decode cX7_lay 36 = .ok (.isub, 1) := by decide +kernel
theorem dX7_lay_37 : decode cX7_lay 37 = .ok (.ireturn, 1) := by decide +kernel
theorem dX7_read_0 : decode cX7_read 0 = .ok (.aload_n 0, 1) := by decide +kernel
theorem dX7_read_1 : decode cX7_read 1 = .ok (.iload_n 1, 1) := by decide +kernel
theorem dX7_read_2 : decode cX7_read 2 = .ok (.invokevirtual 241, 3) := by decide +kernel
theorem dX7_read_5 : decode cX7_read 5 = .ok (.astore 5, 2) := by decide +kernel
theorem dX7_read_7 : decode cX7_read 7 = .ok (.aload 5, 2) := by decide +kernel
theorem dX7_read_9 : decode cX7_read 9 = .ok (.ifnull 23, 3) := by decide +kernel
theorem dX7_read_12 : decode cX7_read 12 = .ok (.iload_n 2, 1) := by decide +kernel
theorem dX7_read_13 : decode cX7_read 13 = .ok (.iconst 0, 1) := by decide +kernel
theorem dX7_read_14 : decode cX7_read 14 = .ok (.iconst 2, 1) := by decide +kernel
theorem dX7_read_15 : decode cX7_read 15 = .ok (.invokestatic 85, 3) := by decide +kernel
theorem dX7_read_18 : decode cX7_read 18 = .ok (.ifCond .ne 14, 3) := by decide +kernel
theorem dX7_read_21 : decode cX7_read 21 = .ok (.iload 4, 2) := by decide +kernel
theorem dX7_read_23 : decode cX7_read 23 = .ok (.iconst 0, 1) := by decide +kernel
theorem dX7_read_24 : decode cX7_read 24 = .ok (.bipush 20, 2) := by decide +kernel
theorem dX7_read_26 : decode cX7_read 26 = .ok (.invokestatic 85, 3) := by decide +kernel
theorem dX7_read_29 : decode cX7_read 29 = .ok (.ifCond .eq 5, 3) := by decide +kernel
theorem dX7_read_32 : decode cX7_read 32 = .ok (.iconst (-1), 1) := by decide +kernel
theorem dX7_read_33 : decode cX7_read 33 = .ok (.ireturn, 1) := by decide +kernel
theorem dX7_read_34 : decode cX7_read 34 = .ok (.aload 5, 2) := by decide +kernel
theorem dX7_read_36 : decode cX7_read 36 = .ok (.iload_n 2, 1) := by decide +kernel
theorem dX7_read_37 : decode cX7_read 37 = .ok (.iload_n 3, 1) := by decide +kernel
theorem dX7_read_38 : decode cX7_read 38 = .ok (.iload 4, 2) := by decide +kernel
theorem dX7_read_40 : decode cX7_read 40 = .ok (.invokevirtual 250, 3) := by decide +kernel
theorem dX7_read_43 : decode cX7_read 43 = .ok (.istore 6, 2) := by decide +kernel
theorem dX7_read_45 : decode cX7_read 45 = .ok (.iconst 0, 1) := by decide +kernel
theorem dX7_read_46 : decode cX7_read 46 = .ok (.istore 7, 2) := by decide +kernel
theorem dX7_read_48 : decode cX7_read 48 = .ok (.iload 7, 2) := by decide +kernel
theorem dX7_read_50 : decode cX7_read 50 = .ok (.iload 6, 2) := by decide +kernel
theorem dX7_read_52 : decode cX7_read 52 = .ok (.if_icmp .ge 45, 3) := by decide +kernel
theorem dX7_read_55 : decode cX7_read 55 = .ok (.aload 5, 2) := by decide +kernel
theorem dX7_read_57 : decode cX7_read 57 = .ok (.iload_n 3, 1) := by decide +kernel
theorem dX7_read_58 : decode cX7_read 58 = .ok (.iconst 2, 1) := by decide +kernel
theorem dX7_read_59 : decode cX7_read 59 = .ok (.iload 7, 2) := by decide +kernel
theorem dX7_read_61 : decode cX7_read 61 = .ok (.imul, 1) := by decide +kernel
theorem dX7_read_62 : decode cX7_read 62 = .ok (.iadd, 1) := by decide +kernel
theorem dX7_read_63 : decode cX7_read 63 = .ok (.invokevirtual 254, 3) := by decide +kernel
theorem dX7_read_66 : decode cX7_read 66 = .ok (.aload 5, 2) := by decide +kernel
theorem dX7_read_68 : decode cX7_read 68 = .ok (.iload_n 3, 1) := by decide +kernel
theorem dX7_read_69 : decode cX7_read 69 = .ok (.iconst 2, 1) := by decide +kernel
theorem dX7_read_70 : decode cX7_read 70 = .ok (.iload 7, 2) := by decide +kernel
theorem dX7_read_72 : decode cX7_read 72 = .ok (.imul, 1) := by decide +kernel
theorem dX7_read_73 : decode cX7_read 73 = .ok (.iadd, 1) := by decide +kernel
theorem dX7_read_74 : decode cX7_read 74 = .ok (.iconst 1, 1) := by decide +kernel
theorem dX7_read_75 : decode cX7_read 75 = .ok (.iadd, 1) := by decide +kernel
theorem dX7_read_76 : decode cX7_read 76 = .ok (.invokevirtual 254, 3) := by decide +kernel
theorem dX7_read_79 : decode cX7_read 79 = .ok (.invokestatic 140, 3) := by decide +kernel
theorem dX7_read_82 : decode cX7_read 82 = .ok (.ifCond .eq 9, 3) := by decide +kernel
theorem dX7_read_85 : decode cX7_read 85 = .ok (.bipush (-20), 2) := by decide +kernel
theorem dX7_read_87 : decode cX7_read 87 = .ok (.iload 7, 2) := by decide +kernel
theorem dX7_read_89 : decode cX7_read 89 = .ok (.isub, 1) := by decide +kernel
theorem dX7_read_90 : decode cX7_read 90 = .ok (.ireturn, 1) := by decide +kernel
theorem dX7_read_91 : decode cX7_read 91 = .ok (.iinc 7 1, 3) := by decide +kernel
theorem dX7_read_94 : decode cX7_read 94 = .ok (.goto (-46), 3) := by decide +kernel
theorem dX7_read_97 : decode cX7_read 97 = .ok (.iconst 0, 1) := by decide +kernel
theorem dX7_read_98 : decode cX7_read 98 = .ok (.istore 7, 2) := by decide +kernel
theorem dX7_read_100 : decode cX7_read 100 = .ok (.iload 7, 2) := by decide +kernel
theorem dX7_read_102 : decode cX7_read 102 = .ok (.iload 6, 2) := by decide +kernel
theorem dX7_read_104 : decode cX7_read 104 = .ok (.if_icmp .ge 38, 3) := by decide +kernel
theorem dX7_read_107 : decode cX7_read 107 = .ok (.aload_n 0, 1) := by decide +kernel
theorem dX7_read_108 : decode cX7_read 108 = .ok (.aload 5, 2) := by decide +kernel
theorem dX7_read_110 : decode cX7_read 110 = .ok (.iload_n 3, 1) := by decide +kernel
theorem dX7_read_111 : decode cX7_read 111 = .ok (.iconst 2, 1) := by decide +kernel
theorem dX7_read_112 : decode cX7_read 112 = .ok (.iload 7, 2) := by decide +kernel
theorem dX7_read_114 : decode cX7_read 114 = .ok (.imul, 1) := by decide +kernel
theorem dX7_read_115 : decode cX7_read 115 = .ok (.iadd, 1) := by decide +kernel
theorem dX7_read_116 : decode cX7_read 116 = .ok (.invokevirtual 254, 3) := by decide +kernel
theorem dX7_read_119 : decode cX7_read 119 = .ok (.aload 5, 2) := by decide +kernel
theorem dX7_read_121 : decode cX7_read 121 = .ok (.iload_n 3, 1) := by decide +kernel
theorem dX7_read_122 : decode cX7_read 122 = .ok (.iconst 2, 1) := by decide +kernel
theorem dX7_read_123 : decode cX7_read 123 = .ok (.iload 7, 2) := by decide +kernel
theorem dX7_read_125 : decode cX7_read 125 = .ok (.imul, 1) := by decide +kernel
theorem dX7_read_126 : decode cX7_read 126 = .ok (.iadd, 1) := by decide +kernel
theorem dX7_read_127 : decode cX7_read 127 = .ok (.iconst 1, 1) := by decide +kernel
theorem dX7_read_128 : decode cX7_read 128 = .ok (.iadd, 1) := by decide +kernel
theorem dX7_read_129 : decode cX7_read 129 = .ok (.invokevirtual 254, 3) := by decide +kernel
theorem dX7_read_132 : decode cX7_read 132 = .ok (.invokevirtual 144, 3) := by decide +kernel
theorem dX7_read_135 : decode cX7_read 135 = .ok (.pop, 1) := by decide +kernel
theorem dX7_read_136 : decode cX7_read 136 = .ok (.iinc 7 1, 3) := by decide +kernel
theorem dX7_read_139 : decode cX7_read 139 = .ok (.goto (-39), 3) := by decide +kernel
theorem dX7_read_142 : decode cX7_read 142 = .ok (.aload_n 0, 1) := by decide +kernel
theorem dX7_read_143 : decode cX7_read 143 = .ok (.iload 6, 2) := by decide +kernel
theorem dX7_read_145 : decode cX7_read 145 = .ok (.iload 4, 2) := by decide +kernel
theorem dX7_read_147 : decode cX7_read 147 = .ok (.if_icmp .ne 7, 3) := by decide +kernel
theorem dX7_read_150 : decode cX7_read 150 = .ok (.iconst 0, 1) := by decide +kernel
theorem dX7_read_151 : decode cX7_read 151 = .ok (.goto 9, 3) := by decide +kernel
theorem dX7_read_154 : decode cX7_read 154 = .ok (.aload 5, 2) := by decide +kernel
theorem dX7_read_156 : decode cX7_read 156 = .ok (.iload_n 2, 1) := by decide +kernel
theorem dX7_read_157 : decode cX7_read 157 = .ok (.invokevirtual 257, 3) := by decide +kernel
theorem dX7_read_160 : decode cX7_read 160 = .ok (.putfield 260, 3) := by decide +kernel
theorem dX7_read_163 : decode cX7_read 163 = .ok (.iload 6, 2) := by decide +kernel
theorem dX7_read_165 : decode cX7_read 165 = .ok (.ireturn, 1) := by decide +kernel
theorem dX7_torn_0 : decode cX7_torn 0 = .ok (.aload_n 0, 1) := by decide +kernel
theorem dX7_torn_1 : decode cX7_torn 1 = .ok (.getfield 260, 3) := by decide +kernel
theorem dX7_torn_4 : decode cX7_torn 4 = .ok (.ireturn, 1) := by decide +kernel
theorem dX7_count_0 : decode cX7_count 0 = .ok (.iload_n 1, 1) := by decide +kernel
theorem dX7_count_1 : decode cX7_count 1 = .ok (.tableswitch 73 0 4 #[35, 43, 48, 53, 64], 35) := by decide +kernel
theorem dX7_count_36 : decode cX7_count 36 = .ok (.aload_n 0, 1) := by decide +kernel
theorem dX7_count_37 : decode cX7_count 37 = .ok (.getfield 10, 3) := by decide +kernel
theorem dX7_count_40 : decode cX7_count 40 = .ok (.getfield 263, 3) := by decide +kernel
theorem dX7_count_43 : decode cX7_count 43 = .ok (.ireturn, 1) := by decide +kernel
theorem dX7_count_44 : decode cX7_count 44 = .ok (.aload_n 0, 1) := by decide +kernel
theorem dX7_count_45 : decode cX7_count 45 = .ok (.getfield 112, 3) := by decide +kernel
theorem dX7_count_48 : decode cX7_count 48 = .ok (.ireturn, 1) := by decide +kernel
theorem dX7_count_49 : decode cX7_count 49 = .ok (.aload_n 0, 1) := by decide +kernel
theorem dX7_count_50 : decode cX7_count 50 = .ok (.invokevirtual 266, 3) := by decide +kernel
theorem dX7_count_53 : decode cX7_count 53 = .ok (.ireturn, 1) := by decide +kernel
theorem dX7_count_54 : decode cX7_count 54 = .ok (.aload_n 0, 1) := by decide +kernel
theorem dX7_count_55 : decode cX7_count 55 = .ok (.getfield 19, 3) := by decide +kernel
theorem dX7_count_58 : decode cX7_count 58 = .ok (.getfield 72, 3) := by decide +kernel
theorem dX7_count_61 : decode cX7_count 61 = .ok (.getfield 82, 3) := by decide +kernel
theorem dX7_count_64 : decode cX7_count 64 = .ok (.ireturn, 1) := by decide +kernel
theorem dX7_count_65 : decode cX7_count 65 = .ok (.aload_n 0, 1) := by decide +kernel
theorem dX7_count_66 : decode cX7_count 66 = .ok (.iconst 0, 1) := by decide +kernel
theorem dX7_count_67 : decode cX7_count 67 = .ok (.invokevirtual 241, 3) := by decide +kernel
theorem dX7_count_70 : decode cX7_count 70 = .ok (.invokestatic 269, 3) := by decide +kernel
theorem dX7_count_73 : decode cX7_count 73 = .ok (.ireturn, 1) := by decide +kernel
theorem dX7_count_74 : decode cX7_count 74 = .ok (.iconst (-1), 1) := by decide +kernel
theorem dX7_count_75 : decode cX7_count 75 = .ok (.ireturn, 1) := by decide +kernel
theorem dX7_outside_0 : decode cX7_outside 0 = .ok (.iload_n 0, 1) := by decide +kernel
theorem dX7_outside_1 : decode cX7_outside 1 = .ok (.iload_n 1, 1) := by decide +kernel
theorem dX7_outside_2 : decode cX7_outside 2 = .ok (.if_icmp .lt 8, 3) := by decide +kernel
theorem dX7_outside_5 : decode cX7_outside 5 = .ok (.iload_n 0, 1) := by decide +kernel
theorem dX7_outside_6 : decode cX7_outside 6 = .ok (.iload_n 2, 1) := by decide +kernel
theorem dX7_outside_7 : decode cX7_outside 7 = .ok (.if_icmp .le 7, 3) := by decide +kernel
theorem dX7_outside_10 : decode cX7_outside 10 = .ok (.iconst 1, 1) := by decide +kernel
theorem dX7_outside_11 : decode cX7_outside 11 = .ok (.goto 4, 3) := by decide +kernel
theorem dX7_outside_14 : decode cX7_outside 14 = .ok (.iconst 0, 1) := by decide +kernel
theorem dX7_outside_15 : decode cX7_outside 15 = .ok (.ireturn, 1) := by decide +kernel
theorem dX7_isBadTurn_0 : decode cX7_isBadTurn 0 = .ok (.iload_n 0, 1) := by decide +kernel
theorem dX7_isBadTurn_1 : decode cX7_isBadTurn 1 = .ok (.iconst 1, 1) := by decide +kernel
theorem dX7_isBadTurn_2 : decode cX7_isBadTurn 2 = .ok (.sipush 400, 3) := by decide +kernel
theorem dX7_isBadTurn_5 : decode cX7_isBadTurn 5 = .ok (.invokestatic 85, 3) := by decide +kernel
theorem dX7_isBadTurn_8 : decode cX7_isBadTurn 8 = .ok (.ifCond .ne 13, 3) := by decide +kernel
theorem dX7_isBadTurn_11 : decode cX7_isBadTurn 11 = .ok (.iload_n 1, 1) := by decide +kernel
theorem dX7_isBadTurn_12 : decode cX7_isBadTurn 12 = .ok (.iconst 1, 1) := by decide +kernel
theorem dX7_isBadTurn_13 : decode cX7_isBadTurn 13 = .ok (.bipush 9, 2) := by decide +kernel
theorem dX7_isBadTurn_15 : decode cX7_isBadTurn 15 = .ok (.invokestatic 85, 3) := by decide +kernel
theorem dX7_isBadTurn_18 : decode cX7_isBadTurn 18 = .ok (.ifCond .eq 7, 3) := by decide +kernel
theorem dX7_isBadTurn_21 : decode cX7_isBadTurn 21 = .ok (.iconst 1, 1) := by decide +kernel
theorem dX7_isBadTurn_22 : decode cX7_isBadTurn 22 = .ok (.goto 4, 3) := by decide +kernel
theorem dX7_isBadTurn_25 : decode cX7_isBadTurn 25 = .ok (.iconst 0, 1) := by decide +kernel
theorem dX7_isBadTurn_26 : decode cX7_isBadTurn 26 = .ok (.ireturn, 1) := by decide +kernel
theorem dX7_isBadWash_0 : decode cX7_isBadWash 0 = .ok (.iload_n 0, 1) := by decide +kernel
theorem dX7_isBadWash_1 : decode cX7_isBadWash 1 = .ok (.iconst 1, 1) := by decide +kernel
theorem dX7_isBadWash_2 : decode cX7_isBadWash 2 = .ok (.bipush 99, 2) := by decide +kernel
theorem dX7_isBadWash_4 : decode cX7_isBadWash 4 = .ok (.invokestatic 85, 3) := by decide +kernel
theorem dX7_isBadWash_7 : decode cX7_isBadWash 7 = .ok (.ifCond .ne 13, 3) := by decide +kernel
theorem dX7_isBadWash_10 : decode cX7_isBadWash 10 = .ok (.iload_n 1, 1) := by decide +kernel
theorem dX7_isBadWash_11 : decode cX7_isBadWash 11 = .ok (.iconst 0, 1) := by decide +kernel
theorem dX7_isBadWash_12 : decode cX7_isBadWash 12 = .ok (.bipush 99, 2) := by decide +kernel
theorem dX7_isBadWash_14 : decode cX7_isBadWash 14 = .ok (.invokestatic 85, 3) := by decide +kernel
theorem dX7_isBadWash_17 : decode cX7_isBadWash 17 = .ok (.ifCond .eq 7, 3) := by decide +kernel
theorem dX7_isBadWash_20 : decode cX7_isBadWash 20 = .ok (.iconst 1, 1) := by decide +kernel
theorem dX7_isBadWash_21 : decode cX7_isBadWash 21 = .ok (.goto 4, 3) := by decide +kernel
theorem dX7_isBadWash_24 : decode cX7_isBadWash 24 = .ok (.iconst 0, 1) := by decide +kernel
theorem dX7_isBadWash_25 : decode cX7_isBadWash 25 = .ok (.ireturn, 1) := by decide +kernel
theorem dX7_isBadShare_0 : decode cX7_isBadShare 0 = .ok (.iload_n 0, 1) := by decide +kernel
theorem dX7_isBadShare_1 : decode cX7_isBadShare 1 = .ok (.iconst 0, 1) := by decide +kernel
theorem dX7_isBadShare_2 : decode cX7_isBadShare 2 = .ok (.bipush 99, 2) := by decide +kernel
theorem dX7_isBadShare_4 : decode cX7_isBadShare 4 = .ok (.invokestatic 85, 3) := by decide +kernel
theorem dX7_isBadShare_7 : decode cX7_isBadShare 7 = .ok (.ifCond .ne 13, 3) := by decide +kernel
theorem dX7_isBadShare_10 : decode cX7_isBadShare 10 = .ok (.iload_n 1, 1) := by decide +kernel
theorem dX7_isBadShare_11 : decode cX7_isBadShare 11 = .ok (.iconst 1, 1) := by decide +kernel
theorem dX7_isBadShare_12 : decode cX7_isBadShare 12 = .ok (.bipush 99, 2) := by decide +kernel
theorem dX7_isBadShare_14 : decode cX7_isBadShare 14 = .ok (.invokestatic 85, 3) := by decide +kernel
theorem dX7_isBadShare_17 : decode cX7_isBadShare 17 = .ok (.ifCond .eq 7, 3) := by decide +kernel
theorem dX7_isBadShare_20 : decode cX7_isBadShare 20 = .ok (.iconst 1, 1) := by decide +kernel
theorem dX7_isBadShare_21 : decode cX7_isBadShare 21 = .ok (.goto 4, 3) := by decide +kernel
theorem dX7_isBadShare_24 : decode cX7_isBadShare 24 = .ok (.iconst 0, 1) := by decide +kernel
theorem dX7_isBadShare_25 : decode cX7_isBadShare 25 = .ok (.ireturn, 1) := by decide +kernel
theorem dX7_isBadWater_0 : decode cX7_isBadWater 0 = .ok (.iload_n 0, 1) := by decide +kernel
theorem dX7_isBadWater_1 : decode cX7_isBadWater 1 = .ok (.iconst 0, 1) := by decide +kernel
theorem dX7_isBadWater_2 : decode cX7_isBadWater 2 = .ok (.ldc_w 273, 3) := by decide +kernel
theorem dX7_isBadWater_5 : decode cX7_isBadWater 5 = .ok (.invokestatic 85, 3) := by decide +kernel
theorem dX7_isBadWater_8 : decode cX7_isBadWater 8 = .ok (.ifCond .ne 13, 3) := by decide +kernel
theorem dX7_isBadWater_11 : decode cX7_isBadWater 11 = .ok (.iload_n 1, 1) := by decide +kernel
theorem dX7_isBadWater_12 : decode cX7_isBadWater 12 = .ok (.iconst 0, 1) := by decide +kernel
theorem dX7_isBadWater_13 : decode cX7_isBadWater 13 = .ok (.bipush 6, 2) := by decide +kernel
theorem dX7_isBadWater_15 : decode cX7_isBadWater 15 = .ok (.invokestatic 85, 3) := by decide +kernel
theorem dX7_isBadWater_18 : decode cX7_isBadWater 18 = .ok (.ifCond .eq 7, 3) := by decide +kernel
theorem dX7_isBadWater_21 : decode cX7_isBadWater 21 = .ok (.iconst 1, 1) := by decide +kernel
theorem dX7_isBadWater_22 : decode cX7_isBadWater 22 = .ok (.goto 4, 3) := by decide +kernel
theorem dX7_isBadWater_25 : decode cX7_isBadWater 25 = .ok (.iconst 0, 1) := by decide +kernel
theorem dX7_isBadWater_26 : decode cX7_isBadWater 26 = .ok (.ireturn, 1) := by decide +kernel
theorem dX7_isBadRod_0 : decode cX7_isBadRod 0 = .ok (.iload_n 0, 1) := by decide +kernel
theorem dX7_isBadRod_1 : decode cX7_isBadRod 1 = .ok (.iconst 0, 1) := by decide +kernel
theorem dX7_isBadRod_2 : decode cX7_isBadRod 2 = .ok (.bipush 9, 2) := by decide +kernel
theorem dX7_isBadRod_4 : decode cX7_isBadRod 4 = .ok (.invokestatic 85, 3) := by decide +kernel
theorem dX7_isBadRod_7 : decode cX7_isBadRod 7 = .ok (.ifCond .ne 31, 3) := by decide +kernel
theorem dX7_isBadRod_10 : decode cX7_isBadRod 10 = .ok (.iload_n 1, 1) := by decide +kernel
theorem dX7_isBadRod_11 : decode cX7_isBadRod 11 = .ok (.iconst 0, 1) := by decide +kernel
theorem dX7_isBadRod_12 : decode cX7_isBadRod 12 = .ok (.bipush 9, 2) := by decide +kernel
theorem dX7_isBadRod_14 : decode cX7_isBadRod 14 = .ok (.invokestatic 85, 3) := by decide +kernel
theorem dX7_isBadRod_17 : decode cX7_isBadRod 17 = .ok (.ifCond .ne 21, 3) := by decide +kernel
theorem dX7_isBadRod_20 : decode cX7_isBadRod 20 = .ok (.iload_n 2, 1) := by decide +kernel
theorem dX7_isBadRod_21 : decode cX7_isBadRod 21 = .ok (.iconst 0, 1) := by decide +kernel
theorem dX7_isBadRod_22 : decode cX7_isBadRod 22 = .ok (.bipush 9, 2) := by decide +kernel
theorem dX7_isBadRod_24 : decode cX7_isBadRod 24 = .ok (.invokestatic 85, 3) := by decide +kernel
theorem dX7_isBadRod_27 : decode cX7_isBadRod 27 = .ok (.ifCond .ne 11, 3) := by decide +kernel
theorem dX7_isBadRod_30 : decode cX7_isBadRod 30 = .ok (.iload_n 0, 1) := by decide +kernel
theorem dX7_isBadRod_31 : decode cX7_isBadRod 31 = .ok (.iload_n 1, 1) := by decide +kernel
theorem dX7_isBadRod_32 : decode cX7_isBadRod 32 = .ok (.iadd, 1) := by decide +kernel
theorem dX7_isBadRod_33 : decode cX7_isBadRod 33 = .ok (.iload_n 2, 1) := by decide +kernel
theorem dX7_isBadRod_34 : decode cX7_isBadRod 34 = .ok (.iadd, 1) := by decide +kernel
theorem dX7_isBadRod_35 : decode cX7_isBadRod 35 = .ok (.ifCond .ne 7, 3) := by decide +kernel
theorem dX7_isBadRod_38 : decode cX7_isBadRod 38 = .ok (.iconst 1, 1) := by decide +kernel
theorem dX7_isBadRod_39 : decode cX7_isBadRod 39 = .ok (.goto 4, 3) := by decide +kernel
theorem dX7_isBadRod_42 : decode cX7_isBadRod 42 = .ok (.iconst 0, 1) := by decide +kernel
theorem dX7_isBadRod_43 : decode cX7_isBadRod 43 = .ok (.ireturn, 1) := by decide +kernel
theorem dX7_isBadRun_0 : decode cX7_isBadRun 0 = .ok (.aload_n 0, 1) := by decide +kernel
theorem dX7_isBadRun_1 : decode cX7_isBadRun 1 = .ok (.getfield 10, 3) := by decide +kernel
theorem dX7_isBadRun_4 : decode cX7_isBadRun 4 = .ok (.iload_n 1, 1) := by decide +kernel
theorem dX7_isBadRun_5 : decode cX7_isBadRun 5 = .ok (.invokevirtual 135, 3) := by decide +kernel
theorem dX7_isBadRun_8 : decode cX7_isBadRun 8 = .ok (.ifCond .eq 24, 3) := by decide +kernel
theorem dX7_isBadRun_11 : decode cX7_isBadRun 11 = .ok (.iload_n 2, 1) := by decide +kernel
theorem dX7_isBadRun_12 : decode cX7_isBadRun 12 = .ok (.iconst 0, 1) := by decide +kernel
theorem dX7_isBadRun_13 : decode cX7_isBadRun 13 = .ok (.sipush 400, 3) := by decide +kernel
theorem dX7_isBadRun_16 : decode cX7_isBadRun 16 = .ok (.invokestatic 85, 3) := by decide +kernel
theorem dX7_isBadRun_19 : decode cX7_isBadRun 19 = .ok (.ifCond .ne 13, 3) := by decide +kernel
theorem dX7_isBadRun_22 : decode cX7_isBadRun 22 = .ok (.iload_n 3, 1) := by decide +kernel
theorem dX7_isBadRun_23 : decode cX7_isBadRun 23 = .ok (.iconst 1, 1) := by decide +kernel
theorem dX7_isBadRun_24 : decode cX7_isBadRun 24 = .ok (.bipush 9, 2) := by decide +kernel
theorem dX7_isBadRun_26 : decode cX7_isBadRun 26 = .ok (.invokestatic 85, 3) := by decide +kernel
theorem dX7_isBadRun_29 : decode cX7_isBadRun 29 = .ok (.ifCond .eq 7, 3) := by decide +kernel
theorem dX7_isBadRun_32 : decode cX7_isBadRun 32 = .ok (.iconst 1, 1) := by decide +kernel
theorem dX7_isBadRun_33 : decode cX7_isBadRun 33 = .ok (.goto 4, 3) := by decide +kernel
theorem dX7_isBadRun_36 : decode cX7_isBadRun 36 = .ok (.iconst 0, 1) := by decide +kernel
theorem dX7_isBadRun_37 : decode cX7_isBadRun 37 = .ok (.ireturn, 1) := by decide +kernel
theorem dX7_turnChurn_0 : decode cX7_turnChurn 0 = .ok (.iconst 0, 1) := by decide +kernel
theorem dX7_turnChurn_1 : decode cX7_turnChurn 1 = .ok (.istore_n 3, 1) := by decide +kernel
theorem dX7_turnChurn_2 : decode cX7_turnChurn 2 = .ok (.iconst 0, 1) := by decide +kernel
theorem dX7_turnChurn_3 : decode cX7_turnChurn 3 = .ok (.istore 4, 2) := by decide +kernel
theorem dX7_turnChurn_5 : decode cX7_turnChurn 5 = .ok (.iload 4, 2) := by decide +kernel
theorem dX7_turnChurn_7 : decode cX7_turnChurn 7 = .ok (.iload_n 1, 1) := by decide +kernel
theorem dX7_turnChurn_8 : decode cX7_turnChurn 8 = .ok (.if_icmp .ge 27, 3) := by decide +kernel
theorem dX7_turnChurn_11 : decode cX7_turnChurn 11 = .ok (.aload_n 0, 1) := by decide +kernel
theorem dX7_turnChurn_12 : decode cX7_turnChurn 12 = .ok (.getfield 26, 3) := by decide +kernel
theorem dX7_turnChurn_15 : decode cX7_turnChurn 15 = .ok (.aload_n 0, 1) := by decide +kernel
theorem dX7_turnChurn_16 : decode cX7_turnChurn 16 = .ok (.getfield 10, 3) := by decide +kernel
theorem dX7_turnChurn_19 : decode cX7_turnChurn 19 = .ok (.iload_n 2, 1) := by decide +kernel
theorem dX7_turnChurn_20 : decode cX7_turnChurn 20 = .ok (.invokevirtual 162, 3) := by decide +kernel
theorem dX7_turnChurn_23 : decode cX7_turnChurn 23 = .ok (.ifCond .eq 6, 3) := by decide +kernel
theorem dX7_turnChurn_26 : decode cX7_turnChurn 26 = .ok (.iinc 3 1, 3) := by decide +kernel
theorem dX7_turnChurn_29 : decode cX7_turnChurn 29 = .ok (.iinc 4 1, 3) := by decide +kernel
theorem dX7_turnChurn_32 : decode cX7_turnChurn 32 = .ok (.goto (-27), 3) := by decide +kernel
theorem dX7_turnChurn_35 : decode cX7_turnChurn 35 = .ok (.iload_n 3, 1) := by decide +kernel
theorem dX7_turnChurn_36 : decode cX7_turnChurn 36 = .ok (.ireturn, 1) := by decide +kernel
theorem dX7_turnTrialTillCome_0 : decode cX7_turnTrialTillCome 0 = .ok (.iconst 1, 1) := by decide +kernel
theorem dX7_turnTrialTillCome_1 : decode cX7_turnTrialTillCome 1 = .ok (.istore_n 3, 1) := by decide +kernel
theorem dX7_turnTrialTillCome_2 : decode cX7_turnTrialTillCome 2 = .ok (.iload_n 3, 1) := by decide +kernel
theorem dX7_turnTrialTillCome_3 : decode cX7_turnTrialTillCome 3 = .ok (.iload_n 2, 1) := by decide +kernel
theorem dX7_turnTrialTillCome_4 : decode cX7_turnTrialTillCome 4 = .ok (.if_icmp .gt 57, 3) := by decide +kernel
theorem dX7_turnTrialTillCome_7 : decode cX7_turnTrialTillCome 7 = .ok (.aload_n 0, 1) := by decide +kernel
theorem dX7_turnTrialTillCome_8 : decode cX7_turnTrialTillCome 8 = .ok (.getfield 30, 3) := by decide +kernel
theorem dX7_turnTrialTillCome_11 : decode cX7_turnTrialTillCome 11 = .ok (.aload_n 0, 1) := by decide +kernel
theorem dX7_turnTrialTillCome_12 : decode cX7_turnTrialTillCome 12 = .ok (.getfield 10, 3) := by decide +kernel
theorem dX7_turnTrialTillCome_15 : decode cX7_turnTrialTillCome 15 = .ok (.iload_n 1, 1) := by decide +kernel
theorem dX7_turnTrialTillCome_16 : decode cX7_turnTrialTillCome 16 = .ok (.invokevirtual 162, 3) := by decide +kernel
theorem dX7_turnTrialTillCome_19 : decode cX7_turnTrialTillCome 19 = .ok (.istore 4, 2) := by decide +kernel
theorem dX7_turnTrialTillCome_21 : decode cX7_turnTrialTillCome 21 = .ok (.aload_n 0, 1) := by decide +kernel
theorem dX7_turnTrialTillCome_22 : decode cX7_turnTrialTillCome 22 = .ok (.getfield 30, 3) := by decide +kernel
theorem dX7_turnTrialTillCome_25 : decode cX7_turnTrialTillCome 25 = .ok (.invokevirtual 190, 3) := by decide +kernel
theorem dX7_turnTrialTillCome_28 : decode cX7_turnTrialTillCome 28 = .ok (.ifCond .eq 5, 3) := by decide +kernel
theorem dX7_turnTrialTillCome_31 : decode cX7_turnTrialTillCome 31 = .ok (.iload_n 3, 1) := by decide +kernel
theorem dX7_turnTrialTillCome_32 : decode cX7_turnTrialTillCome 32 = .ok (.ireturn, 1) := by decide +kernel
theorem dX7_turnTrialTillCome_33 : decode cX7_turnTrialTillCome 33 = .ok (.iload 4, 2) := by decide +kernel
theorem dX7_turnTrialTillCome_35 : decode cX7_turnTrialTillCome 35 = .ok (.ifCond .eq 17, 3) := by decide +kernel
theorem dX7_turnTrialTillCome_38 : decode cX7_turnTrialTillCome 38 = .ok (.aload_n 0, 1) := by decide +kernel
theorem dX7_turnTrialTillCome_39 : decode cX7_turnTrialTillCome 39 = .ok (.getfield 30, 3) := by decide +kernel
theorem dX7_turnTrialTillCome_42 : decode cX7_turnTrialTillCome 42 = .ok (.aload_n 0, 1) := by decide +kernel
theorem dX7_turnTrialTillCome_43 : decode cX7_turnTrialTillCome 43 = .ok (.getfield 10, 3) := by decide +kernel
theorem dX7_turnTrialTillCome_46 : decode cX7_turnTrialTillCome 46 = .ok (.invokevirtual 274, 3) := by decide +kernel
theorem dX7_turnTrialTillCome_49 : decode cX7_turnTrialTillCome 49 = .ok (.ifCond .ne 6, 3) := by decide +kernel
theorem dX7_turnTrialTillCome_52 : decode cX7_turnTrialTillCome 52 = .ok (.bipush (-4), 2) := by decide +kernel
theorem dX7_turnTrialTillCome_54 : decode cX7_turnTrialTillCome 54 = .ok (.ireturn, 1) := by decide +kernel
theorem dX7_turnTrialTillCome_55 : decode cX7_turnTrialTillCome 55 = .ok (.iinc 3 1, 3) := by decide +kernel
theorem dX7_turnTrialTillCome_58 : decode cX7_turnTrialTillCome 58 = .ok (.goto (-56), 3) := by decide +kernel
theorem dX7_turnTrialTillCome_61 : decode cX7_turnTrialTillCome 61 = .ok (.bipush (-4), 2) := by decide +kernel
theorem dX7_turnTrialTillCome_63 : decode cX7_turnTrialTillCome 63 = .ok (.ireturn, 1) := by decide +kernel
theorem dX7_findBest_0 : decode cX7_findBest 0 = .ok (.aload_n 0, 1) := by decide +kernel
theorem dX7_findBest_1 : decode cX7_findBest 1 = .ok (.getfield 36, 3) := by decide +kernel
theorem dX7_findBest_4 : decode cX7_findBest 4 = .ok (.iconst 0, 1) := by decide +kernel
theorem dX7_findBest_5 : decode cX7_findBest 5 = .ok (.putfield 173, 3) := by decide +kernel
theorem dX7_findBest_8 : decode cX7_findBest 8 = .ok (.iconst 0, 1) := by decide +kernel
theorem dX7_findBest_9 : decode cX7_findBest 9 = .ok (.istore_n 2, 1) := by decide +kernel
theorem dX7_findBest_10 : decode cX7_findBest 10 = .ok (.iload_n 2, 1) := by decide +kernel
theorem dX7_findBest_11 : decode cX7_findBest 11 = .ok (.sipush 400, 3) := by decide +kernel
theorem dX7_findBest_14 : decode cX7_findBest 14 = .ok (.if_icmp .gt 96, 3) := by decide +kernel
theorem dX7_findBest_17 : decode cX7_findBest 17 = .ok (.iconst 1, 1) := by decide +kernel
theorem dX7_findBest_18 : decode cX7_findBest 18 = .ok (.istore_n 3, 1) := by decide +kernel
theorem dX7_findBest_19 : decode cX7_findBest 19 = .ok (.iload_n 3, 1) := by decide +kernel
theorem dX7_findBest_20 : decode cX7_findBest 20 = .ok (.bipush 9, 2) := by decide +kernel
theorem dX7_findBest_22 : decode cX7_findBest 22 = .ok (.if_icmp .gt 82, 3) := by decide +kernel
theorem dX7_findBest_25 : decode cX7_findBest 25 = .ok (.aload_n 0, 1) := by decide +kernel
theorem dX7_findBest_26 : decode cX7_findBest 26 = .ok (.getfield 30, 3) := by decide +kernel
theorem dX7_findBest_29 : decode cX7_findBest 29 = .ok (.aload_n 0, 1) := by decide +kernel
theorem dX7_findBest_30 : decode cX7_findBest 30 = .ok (.getfield 10, 3) := by decide +kernel
theorem dX7_findBest_33 : decode cX7_findBest 33 = .ok (.iload_n 1, 1) := by decide +kernel
theorem dX7_findBest_34 : decode cX7_findBest 34 = .ok (.iload_n 2, 1) := by decide +kernel
theorem dX7_findBest_35 : decode cX7_findBest 35 = .ok (.invokevirtual 108, 3) := by decide +kernel
theorem dX7_findBest_38 : decode cX7_findBest 38 = .ok (.aload_n 0, 1) := by decide +kernel
theorem dX7_findBest_39 : decode cX7_findBest 39 = .ok (.iload_n 3, 1) := by decide +kernel
theorem dX7_findBest_40 : decode cX7_findBest 40 = .ok (.sipush 400, 3) := by decide +kernel
theorem dX7_findBest_43 : decode cX7_findBest 43 = .ok (.invokevirtual 166, 3) := by decide +kernel
theorem dX7_findBest_46 : decode cX7_findBest 46 = .ok (.istore 4, 2) := by decide +kernel
theorem dX7_findBest_48 : decode cX7_findBest 48 = .ok (.iload 4, 2) := by decide +kernel
theorem dX7_findBest_50 : decode cX7_findBest 50 = .ok (.bipush (-4), 2) := by decide +kernel
theorem dX7_findBest_52 : decode cX7_findBest 52 = .ok (.if_icmp .eq 46, 3) := by decide +kernel
theorem dX7_findBest_55 : decode cX7_findBest 55 = .ok (.aload_n 0, 1) := by decide +kernel
theorem dX7_findBest_56 : decode cX7_findBest 56 = .ok (.getfield 10, 3) := by decide +kernel
theorem dX7_findBest_59 : decode cX7_findBest 59 = .ok (.aload_n 0, 1) := by decide +kernel
theorem dX7_findBest_60 : decode cX7_findBest 60 = .ok (.getfield 30, 3) := by decide +kernel
theorem dX7_findBest_63 : decode cX7_findBest 63 = .ok (.aload_n 0, 1) := by decide +kernel
theorem dX7_findBest_64 : decode cX7_findBest 64 = .ok (.getfield 10, 3) := by decide +kernel
theorem dX7_findBest_67 : decode cX7_findBest 67 = .ok (.invokevirtual 274, 3) := by decide +kernel
theorem dX7_findBest_70 : decode cX7_findBest 70 = .ok (.invokevirtual 184, 3) := by decide +kernel
theorem dX7_findBest_73 : decode cX7_findBest 73 = .ok (.ifCond .eq 25, 3) := by decide +kernel
theorem dX7_findBest_76 : decode cX7_findBest 76 = .ok (.aload_n 0, 1) := by decide +kernel
theorem dX7_findBest_77 : decode cX7_findBest 77 = .ok (.getfield 36, 3) := by decide +kernel
theorem dX7_findBest_80 : decode cX7_findBest 80 = .ok (.iload_n 2, 1) := by decide +kernel
theorem dX7_findBest_81 : decode cX7_findBest 81 = .ok (.iload_n 3, 1) := by decide +kernel
theorem dX7_findBest_82 : decode cX7_findBest 82 = .ok (.iload 4, 2) := by decide +kernel
theorem dX7_findBest_84 : decode cX7_findBest 84 = .ok (.aload_n 0, 1) := by decide +kernel
theorem dX7_findBest_85 : decode cX7_findBest 85 = .ok (.getfield 30, 3) := by decide +kernel
theorem dX7_findBest_88 : decode cX7_findBest 88 = .ok (.aload_n 0, 1) := by decide +kernel
theorem dX7_findBest_89 : decode cX7_findBest 89 = .ok (.getfield 10, 3) := by decide +kernel
theorem dX7_findBest_92 : decode cX7_findBest 92 = .ok (.invokevirtual 278, 3) := by decide +kernel
theorem dX7_findBest_95 : decode cX7_findBest 95 = .ok (.invokevirtual 281, 3) := by decide +kernel
theorem dX7_findBest_98 : decode cX7_findBest 98 = .ok (.iinc 3 1, 3) := by decide +kernel
theorem dX7_findBest_101 : decode cX7_findBest 101 = .ok (.goto (-82), 3) := by decide +kernel
theorem dX7_findBest_104 : decode cX7_findBest 104 = .ok (.iinc 2 20, 3) := by decide +kernel
theorem dX7_findBest_107 : decode cX7_findBest 107 = .ok (.goto (-97), 3) := by decide +kernel
theorem dX7_findBest_110 : decode cX7_findBest 110 = .ok (.return_, 1) := by decide +kernel
theorem dX7_isAsSeen_0 : decode cX7_isAsSeen 0 = .ok (.iconst 0, 1) := by decide +kernel
theorem dX7_isAsSeen_1 : decode cX7_isAsSeen 1 = .ok (.istore_n 3, 1) := by decide +kernel
theorem dX7_isAsSeen_2 : decode cX7_isAsSeen 2 = .ok (.iload_n 3, 1) := by decide +kernel
theorem dX7_isAsSeen_3 : decode cX7_isAsSeen 3 = .ok (.aload_n 0, 1) := by decide +kernel
theorem dX7_isAsSeen_4 : decode cX7_isAsSeen 4 = .ok (.getfield 112, 3) := by decide +kernel
theorem dX7_isAsSeen_7 : decode cX7_isAsSeen 7 = .ok (.if_icmp .ge 112, 3) := by decide +kernel
theorem dX7_isAsSeen_10 : decode cX7_isAsSeen 10 = .ok (.iload_n 3, 1) := by decide +kernel
theorem dX7_isAsSeen_11 : decode cX7_isAsSeen 11 = .ok (.aload_n 0, 1) := by decide +kernel
theorem dX7_isAsSeen_12 : decode cX7_isAsSeen 12 = .ok (.getfield 54, 3) := by decide +kernel
theorem dX7_isAsSeen_15 : decode cX7_isAsSeen 15 = .ok (.arraylength, 1) := by decide +kernel
theorem dX7_isAsSeen_16 : decode cX7_isAsSeen 16 = .ok (.if_icmp .ge 103, 3) := by decide +kernel
theorem dX7_isAsSeen_19 : decode cX7_isAsSeen 19 = .ok (.iload_n 3, 1) := by decide +kernel
theorem dX7_isAsSeen_20 : decode cX7_isAsSeen 20 = .ok (.aload_n 0, 1) := by decide +kernel
theorem dX7_isAsSeen_21 : decode cX7_isAsSeen 21 = .ok (.getfield 58, 3) := by decide +kernel
theorem dX7_isAsSeen_24 : decode cX7_isAsSeen 24 = .ok (.arraylength, 1) := by decide +kernel
theorem dX7_isAsSeen_25 : decode cX7_isAsSeen 25 = .ok (.if_icmp .ge 94, 3) := by decide +kernel
theorem dX7_isAsSeen_28 : decode cX7_isAsSeen 28 = .ok (.aload_n 0, 1) := by decide +kernel
theorem dX7_isAsSeen_29 : decode cX7_isAsSeen 29 = .ok (.getfield 58, 3) := by decide +kernel
theorem dX7_isAsSeen_32 : decode cX7_isAsSeen 32 = .ok (.iload_n 3, 1) := by decide +kernel
theorem dX7_isAsSeen_33 : decode cX7_isAsSeen 33 = .ok (.iaload, 1) := by decide +kernel
theorem dX7_isAsSeen_34 : decode cX7_isAsSeen 34 = .ok (.ifCond .le 7, 3) := by decide +kernel
theorem dX7_isAsSeen_37 : decode cX7_isAsSeen 37 = .ok (.iconst 1, 1) := by decide +kernel
theorem dX7_isAsSeen_38 : decode cX7_isAsSeen 38 = .ok (.goto 4, 3) := by decide +kernel
theorem dX7_isAsSeen_41 : decode cX7_isAsSeen 41 = .ok (.iconst 0, 1) := by decide +kernel
theorem dX7_isAsSeen_42 : decode cX7_isAsSeen 42 = .ok (.istore 4, 2) := by decide +kernel
theorem dX7_isAsSeen_44 : decode cX7_isAsSeen 44 = .ok (.iload 4, 2) := by decide +kernel
theorem dX7_isAsSeen_46 : decode cX7_isAsSeen 46 = .ok (.ifCond .eq 12, 3) := by decide +kernel
theorem dX7_isAsSeen_49 : decode cX7_isAsSeen 49 = .ok (.aload_n 0, 1) := by decide +kernel
theorem dX7_isAsSeen_50 : decode cX7_isAsSeen 50 = .ok (.getfield 58, 3) := by decide +kernel
theorem dX7_isAsSeen_53 : decode cX7_isAsSeen 53 = .ok (.iload_n 3, 1) := by decide +kernel
theorem dX7_isAsSeen_54 : decode cX7_isAsSeen 54 = .ok (.iaload, 1) := by decide +kernel
theorem dX7_isAsSeen_55 : decode cX7_isAsSeen 55 = .ok (.goto 6, 3) := by decide +kernel
theorem dX7_isAsSeen_58 : decode cX7_isAsSeen 58 = .ok (.sipush 400, 3) := by decide +kernel
theorem dX7_isAsSeen_61 : decode cX7_isAsSeen 61 = .ok (.istore 5, 2) := by decide +kernel
theorem dX7_isAsSeen_63 : decode cX7_isAsSeen 63 = .ok (.aload_n 0, 1) := by decide +kernel
theorem dX7_isAsSeen_64 : decode cX7_isAsSeen 64 = .ok (.getfield 30, 3) := by decide +kernel
theorem dX7_isAsSeen_67 : decode cX7_isAsSeen 67 = .ok (.aload_n 0, 1) := by decide +kernel
theorem dX7_isAsSeen_68 : decode cX7_isAsSeen 68 = .ok (.getfield 10, 3) := by decide +kernel
theorem dX7_isAsSeen_71 : decode cX7_isAsSeen 71 = .ok (.aload_n 0, 1) := by decide +kernel
theorem dX7_isAsSeen_72 : decode cX7_isAsSeen 72 = .ok (.getfield 54, 3) := by decide +kernel
theorem dX7_isAsSeen_75 : decode cX7_isAsSeen 75 = .ok (.iload_n 3, 1) := by decide +kernel
theorem dX7_isAsSeen_76 : decode cX7_isAsSeen 76 = .ok (.iaload, 1) := by decide +kernel
theorem dX7_isAsSeen_77 : decode cX7_isAsSeen 77 = .ok (.iload_n 1, 1) := by decide +kernel
theorem dX7_isAsSeen_78 : decode cX7_isAsSeen 78 = .ok (.invokevirtual 108, 3) := by decide +kernel
theorem dX7_isAsSeen_81 : decode cX7_isAsSeen 81 = .ok (.aload_n 0, 1) := by decide +kernel
theorem dX7_isAsSeen_82 : decode cX7_isAsSeen 82 = .ok (.iload_n 2, 1) := by decide +kernel
theorem dX7_isAsSeen_83 : decode cX7_isAsSeen 83 = .ok (.iload 5, 2) := by decide +kernel
theorem dX7_isAsSeen_85 : decode cX7_isAsSeen 85 = .ok (.invokevirtual 166, 3) := by decide +kernel
theorem dX7_isAsSeen_88 : decode cX7_isAsSeen 88 = .ok (.istore 6, 2) := by decide +kernel
theorem dX7_isAsSeen_90 : decode cX7_isAsSeen 90 = .ok (.iload 6, 2) := by decide +kernel
theorem dX7_isAsSeen_92 : decode cX7_isAsSeen 92 = .ok (.iload 4, 2) := by decide +kernel
theorem dX7_isAsSeen_94 : decode cX7_isAsSeen 94 = .ok (.ifCond .eq 12, 3) := by decide +kernel
theorem dX7_isAsSeen_97 : decode cX7_isAsSeen 97 = .ok (.aload_n 0, 1) := by decide +kernel
theorem dX7_isAsSeen_98 : decode cX7_isAsSeen 98 = .ok (.getfield 58, 3) := by decide +kernel
theorem dX7_isAsSeen_101 : decode cX7_isAsSeen 101 = .ok (.iload_n 3, 1) := by decide +kernel
theorem dX7_isAsSeen_102 : decode cX7_isAsSeen 102 = .ok (.iaload, 1) := by decide +kernel
theorem dX7_isAsSeen_103 : decode cX7_isAsSeen 103 = .ok (.goto 5, 3) := by decide +kernel
theorem dX7_isAsSeen_106 : decode cX7_isAsSeen 106 = .ok (.bipush (-4), 2) := by decide +kernel
theorem dX7_isAsSeen_108 : decode cX7_isAsSeen 108 = .ok (.if_icmp .eq 5, 3) := by decide +kernel
theorem dX7_isAsSeen_111 : decode cX7_isAsSeen 111 = .ok (.iconst 0, 1) := by decide +kernel
theorem dX7_isAsSeen_112 : decode cX7_isAsSeen 112 = .ok (.ireturn, 1) := by decide +kernel
theorem dX7_isAsSeen_113 : decode cX7_isAsSeen 113 = .ok (.iinc 3 1, 3) := by decide +kernel
theorem dX7_isAsSeen_116 : decode cX7_isAsSeen 116 = .ok (.goto (-114), 3) := by decide +kernel
theorem dX7_isAsSeen_119 : decode cX7_isAsSeen 119 = .ok (.iconst 1, 1) := by decide +kernel
theorem dX7_isAsSeen_120 : decode cX7_isAsSeen 120 = .ok (.ireturn, 1) := by decide +kernel
theorem dX7_tryDeed_0 : decode cX7_tryDeed 0 = .ok (.aload_n 0, 1) := by decide +kernel
theorem dX7_tryDeed_1 : decode cX7_tryDeed 1 = .ok (.getfield 30, 3) := by decide +kernel
theorem dX7_tryDeed_4 : decode cX7_tryDeed 4 = .ok (.aload_n 0, 1) := by decide +kernel
theorem dX7_tryDeed_5 : decode cX7_tryDeed 5 = .ok (.getfield 26, 3) := by decide +kernel
theorem dX7_tryDeed_8 : decode cX7_tryDeed 8 = .ok (.invokevirtual 197, 3) := by decide +kernel
theorem dX7_tryDeed_11 : decode cX7_tryDeed 11 = .ok (.iload_n 1, 1) := by decide +kernel
theorem dX7_tryDeed_12 : decode cX7_tryDeed 12 = .ok (.iconst 1, 1) := by decide +kernel
theorem dX7_tryDeed_13 : decode cX7_tryDeed 13 = .ok (.if_icmp .ne 13, 3) := by decide +kernel
theorem dX7_tryDeed_16 : decode cX7_tryDeed 16 = .ok (.aload_n 0, 1) := by decide +kernel
theorem dX7_tryDeed_17 : decode cX7_tryDeed 17 = .ok (.getfield 30, 3) := by decide +kernel
theorem dX7_tryDeed_20 : decode cX7_tryDeed 20 = .ok (.invokevirtual 148, 3) := by decide +kernel
theorem dX7_tryDeed_23 : decode cX7_tryDeed 23 = .ok (.goto 60, 3) := by decide +kernel
theorem dX7_tryDeed_26 : decode cX7_tryDeed 26 = .ok (.iload_n 1, 1) := by decide +kernel
theorem dX7_tryDeed_27 : decode cX7_tryDeed 27 = .ok (.iconst 2, 1) := by decide +kernel
theorem dX7_tryDeed_28 : decode cX7_tryDeed 28 = .ok (.if_icmp .ne 29, 3) := by decide +kernel
theorem dX7_tryDeed_31 : decode cX7_tryDeed 31 = .ok (.aload_n 0, 1) := by decide +kernel
theorem dX7_tryDeed_32 : decode cX7_tryDeed 32 = .ok (.getfield 30, 3) := by decide +kernel
theorem dX7_tryDeed_35 : decode cX7_tryDeed 35 = .ok (.sipush 400, 3) := by decide +kernel
theorem dX7_tryDeed_38 : decode cX7_tryDeed 38 = .ok (.aload_n 0, 1) := by decide +kernel
theorem dX7_tryDeed_39 : decode cX7_tryDeed 39 = .ok (.getfield 30, 3) := by decide +kernel
theorem dX7_tryDeed_42 : decode cX7_tryDeed 42 = .ok (.getfield 68, 3) := by decide +kernel
theorem dX7_tryDeed_45 : decode cX7_tryDeed 45 = .ok (.bipush 20, 2) := by decide +kernel
theorem dX7_tryDeed_47 : decode cX7_tryDeed 47 = .ok (.iadd, 1) := by decide +kernel
theorem dX7_tryDeed_48 : decode cX7_tryDeed 48 = .ok (.invokestatic 285, 3) := by decide +kernel
theorem dX7_tryDeed_51 : decode cX7_tryDeed 51 = .ok (.putfield 68, 3) := by decide +kernel
theorem dX7_tryDeed_54 : decode cX7_tryDeed 54 = .ok (.goto 29, 3) := by decide +kernel
theorem dX7_tryDeed_57 : decode cX7_tryDeed 57 = .ok (.iload_n 1, 1) := by decide +kernel
theorem dX7_tryDeed_58 : decode cX7_tryDeed 58 = .ok (.iconst 3, 1) := by decide +kernel
theorem dX7_tryDeed_59 : decode cX7_tryDeed 59 = .ok (.if_icmp .ne 24, 3) := by decide +kernel
theorem dX7_tryDeed_62 : decode cX7_tryDeed 62 = .ok (.aload_n 0, 1) := by decide +kernel
theorem dX7_tryDeed_63 : decode cX7_tryDeed 63 = .ok (.getfield 30, 3) := by decide +kernel
theorem dX7_tryDeed_66 : decode cX7_tryDeed 66 = .ok (.iconst 0, 1) := by decide +kernel
theorem dX7_tryDeed_67 : decode cX7_tryDeed 67 = .ok (.aload_n 0, 1) := by decide +kernel
theorem dX7_tryDeed_68 : decode cX7_tryDeed 68 = .ok (.getfield 30, 3) := by decide +kernel
theorem dX7_tryDeed_71 : decode cX7_tryDeed 71 = .ok (.getfield 68, 3) := by decide +kernel
theorem dX7_tryDeed_74 : decode cX7_tryDeed 74 = .ok (.bipush 20, 2) := by decide +kernel
theorem dX7_tryDeed_76 : decode cX7_tryDeed 76 = .ok (.isub, 1) := by decide +kernel
theorem dX7_tryDeed_77 : decode cX7_tryDeed 77 = .ok (.invokestatic 290, 3) := by decide +kernel
theorem dX7_tryDeed_80 : decode cX7_tryDeed 80 = .ok (.putfield 68, 3) := by decide +kernel
theorem dX7_tryDeed_83 : decode cX7_tryDeed 83 = .ok (.return_, 1) := by decide +kernel
theorem dX7_workWater_0 : decode cX7_workWater 0 = .ok (.iload_n 1, 1) := by decide +kernel
theorem dX7_workWater_1 : decode cX7_workWater 1 = .ok (.istore_n 3, 1) := by decide +kernel
theorem dX7_workWater_2 : decode cX7_workWater 2 = .ok (.iconst 0, 1) := by decide +kernel
theorem dX7_workWater_3 : decode cX7_workWater 3 = .ok (.istore 4, 2) := by decide +kernel
theorem dX7_workWater_5 : decode cX7_workWater 5 = .ok (.iload 4, 2) := by decide +kernel
theorem dX7_workWater_7 : decode cX7_workWater 7 = .ok (.aload_n 0, 1) := by decide +kernel
theorem dX7_workWater_8 : decode cX7_workWater 8 = .ok (.getfield 61, 3) := by decide +kernel
theorem dX7_workWater_11 : decode cX7_workWater 11 = .ok (.arraylength, 1) := by decide +kernel
theorem dX7_workWater_12 : decode cX7_workWater 12 = .ok (.if_icmp .ge 25, 3) := by decide +kernel
theorem dX7_workWater_15 : decode cX7_workWater 15 = .ok (.aload_n 0, 1) := by decide +kernel
theorem dX7_workWater_16 : decode cX7_workWater 16 = .ok (.getfield 61, 3) := by decide +kernel
theorem dX7_workWater_19 : decode cX7_workWater 19 = .ok (.iload 4, 2) := by decide +kernel
theorem dX7_workWater_21 : decode cX7_workWater 21 = .ok (.iload_n 3, 1) := by decide +kernel
theorem dX7_workWater_22 : decode cX7_workWater 22 = .ok (.bipush 10, 2) := by decide +kernel
theorem dX7_workWater_24 : decode cX7_workWater 24 = .ok (.irem, 1) := by decide +kernel
theorem dX7_workWater_25 : decode cX7_workWater 25 = .ok (.iastore, 1) := by decide +kernel
theorem dX7_workWater_26 : decode cX7_workWater 26 = .ok (.iload_n 3, 1) := by decide +kernel
theorem dX7_workWater_27 : decode cX7_workWater 27 = .ok (.bipush 10, 2) := by decide +kernel
theorem dX7_workWater_29 : decode cX7_workWater 29 = .ok (.idiv, 1) := by decide +kernel
theorem dX7_workWater_30 : decode cX7_workWater 30 = .ok (.istore_n 3, 1) := by decide +kernel
theorem dX7_workWater_31 : decode cX7_workWater 31 = .ok (.iinc 4 1, 3) := by decide +kernel
theorem dX7_workWater_34 : decode cX7_workWater 34 = .ok (.goto (-29), 3) := by decide +kernel
theorem dX7_workWater_37 : decode cX7_workWater 37 = .ok (.iconst 0, 1) := by decide +kernel
theorem dX7_workWater_38 : decode cX7_workWater 38 = .ok (.istore 4, 2) := by decide +kernel
theorem dX7_workWater_40 : decode cX7_workWater 40 = .ok (.iload 4, 2) := by decide +kernel
theorem dX7_workWater_42 : decode cX7_workWater 42 = .ok (.iload_n 2, 1) := by decide +kernel
theorem dX7_workWater_43 : decode cX7_workWater 43 = .ok (.if_icmp .ge 57, 3) := by decide +kernel
theorem dX7_workWater_46 : decode cX7_workWater 46 = .ok (.iconst 1, 1) := by decide +kernel
theorem dX7_workWater_47 : decode cX7_workWater 47 = .ok (.istore 5, 2) := by decide +kernel
theorem dX7_workWater_49 : decode cX7_workWater 49 = .ok (.iload 5, 2) := by decide +kernel
theorem dX7_workWater_51 : decode cX7_workWater 51 = .ok (.aload_n 0, 1) := by decide +kernel
theorem dX7_workWater_52 : decode cX7_workWater 52 = .ok (.getfield 61, 3) := by decide +kernel
theorem dX7_workWater_55 : decode cX7_workWater 55 = .ok (.arraylength, 1) := by decide +kernel
theorem dX7_workWater_56 : decode cX7_workWater 56 = .ok (.if_icmp .ge 38, 3) := by decide +kernel
theorem dX7_workWater_59 : decode cX7_workWater 59 = .ok (.aload_n 0, 1) := by decide +kernel
theorem dX7_workWater_60 : decode cX7_workWater 60 = .ok (.getfield 61, 3) := by decide +kernel
theorem dX7_workWater_63 : decode cX7_workWater 63 = .ok (.iload 5, 2) := by decide +kernel
theorem dX7_workWater_65 : decode cX7_workWater 65 = .ok (.iconst 1, 1) := by decide +kernel
theorem dX7_workWater_66 : decode cX7_workWater 66 = .ok (.isub, 1) := by decide +kernel
theorem dX7_workWater_67 : decode cX7_workWater 67 = .ok (.dup2, 1) := by decide +kernel
theorem dX7_workWater_68 : decode cX7_workWater 68 = .ok (.iaload, 1) := by decide +kernel
theorem dX7_workWater_69 : decode cX7_workWater 69 = .ok (.iconst 2, 1) := by decide +kernel
theorem dX7_workWater_70 : decode cX7_workWater 70 = .ok (.aload_n 0, 1) := by decide +kernel
theorem dX7_workWater_71 : decode cX7_workWater 71 = .ok (.getfield 61, 3) := by decide +kernel
theorem dX7_workWater_74 : decode cX7_workWater 74 = .ok (.iload 5, 2) := by decide +kernel
theorem dX7_workWater_76 : decode cX7_workWater 76 = .ok (.iaload, 1) := by decide +kernel
theorem dX7_workWater_77 : decode cX7_workWater 77 = .ok (.imul, 1) := by decide +kernel
theorem dX7_workWater_78 : decode cX7_workWater 78 = .ok (.iadd, 1) := by decide +kernel
theorem dX7_workWater_79 : decode cX7_workWater 79 = .ok (.iastore, 1) := by decide +kernel
theorem dX7_workWater_80 : decode cX7_workWater 80 = .ok (.aload_n 0, 1) := by decide +kernel
theorem dX7_workWater_81 : decode cX7_workWater 81 = .ok (.getfield 61, 3) := by decide +kernel
theorem dX7_workWater_84 : decode cX7_workWater 84 = .ok (.iload 5, 2) := by decide +kernel
theorem dX7_workWater_86 : decode cX7_workWater 86 = .ok (.iconst 0, 1) := by decide +kernel
theorem dX7_workWater_87 : decode cX7_workWater 87 = .ok (.iastore, 1) := by decide +kernel
theorem dX7_workWater_88 : decode cX7_workWater 88 = .ok (.iinc 5 1, 3) := by decide +kernel
theorem dX7_workWater_91 : decode cX7_workWater 91 = .ok (.goto (-42), 3) := by decide +kernel
theorem dX7_workWater_94 : decode cX7_workWater 94 = .ok (.iinc 4 1, 3) := by decide +kernel
theorem dX7_workWater_97 : decode cX7_workWater 97 = .ok (.goto (-57), 3) := by decide +kernel
theorem dX7_workWater_100 : decode cX7_workWater 100 = .ok (.return_, 1) := by decide +kernel
theorem dX7_chancesAbove_0 : decode cX7_chancesAbove 0 = .ok (.iload_n 0, 1) := by decide +kernel
theorem dX7_chancesAbove_1 : decode cX7_chancesAbove 1 = .ok (.iconst 1, 1) := by decide +kernel
theorem dX7_chancesAbove_2 : decode cX7_chancesAbove 2 = .ok (.iadd, 1) := by decide +kernel
theorem dX7_chancesAbove_3 : decode cX7_chancesAbove 3 = .ok (.bipush 16, 2) := by decide +kernel
theorem dX7_chancesAbove_5 : decode cX7_chancesAbove 5 = .ok (.if_icmp .le 7, 3) := by decide +kernel
theorem dX7_chancesAbove_8 : decode cX7_chancesAbove 8 = .ok (.iload_n 1, 1) := by decide +kernel
theorem dX7_chancesAbove_9 : decode cX7_chancesAbove 9 = .ok (.goto 4, 3) := by decide +kernel
theorem dX7_chancesAbove_12 : decode cX7_chancesAbove 12 = .ok (.iconst 0, 1) := by decide +kernel
theorem dX7_chancesAbove_13 : decode cX7_chancesAbove 13 = .ok (.iload_n 0, 1) := by decide +kernel
theorem dX7_chancesAbove_14 : decode cX7_chancesAbove 14 = .ok (.bipush 16, 2) := by decide +kernel
theorem dX7_chancesAbove_16 : decode cX7_chancesAbove 16 = .ok (.if_icmp .le 7, 3) := by decide +kernel
theorem dX7_chancesAbove_19 : decode cX7_chancesAbove 19 = .ok (.iload_n 2, 1) := by decide +kernel
theorem dX7_chancesAbove_20 : decode cX7_chancesAbove 20 = .ok (.goto 4, 3) := by decide +kernel
theorem dX7_chancesAbove_23 : decode cX7_chancesAbove 23 = .ok (.iconst 0, 1) := by decide +kernel
theorem dX7_chancesAbove_24 : decode cX7_chancesAbove 24 = .ok (.iadd, 1) := by decide +kernel
theorem dX7_chancesAbove_25 : decode cX7_chancesAbove 25 = .ok (.iload_n 0, 1) := by decide +kernel
theorem dX7_chancesAbove_26 : decode cX7_chancesAbove 26 = .ok (.iconst 1, 1) := by decide +kernel
theorem dX7_chancesAbove_27 : decode cX7_chancesAbove 27 = .ok (.isub, 1) := by decide +kernel
theorem dX7_chancesAbove_28 : decode cX7_chancesAbove 28 = .ok (.bipush 16, 2) := by decide +kernel
theorem dX7_chancesAbove_30 : decode cX7_chancesAbove 30 = .ok (.if_icmp .le 7, 3) := by decide +kernel
theorem dX7_chancesAbove_33 : decode cX7_chancesAbove 33 = .ok (.iload_n 3, 1) := by decide +kernel
theorem dX7_chancesAbove_34 : decode cX7_chancesAbove 34 = .ok (.goto 4, 3) := by decide +kernel
theorem dX7_chancesAbove_37 : decode cX7_chancesAbove 37 = .ok (.iconst 0, 1) := by decide +kernel
theorem dX7_chancesAbove_38 : decode cX7_chancesAbove 38 = .ok (.iadd, 1) := by decide +kernel
theorem dX7_chancesAbove_39 : decode cX7_chancesAbove 39 = .ok (.ireturn, 1) := by decide +kernel
theorem dX7_imageAt_0 : decode cX7_imageAt 0 = .ok (.iload_n 1, 1) := by decide +kernel
theorem dX7_imageAt_1 : decode cX7_imageAt 1 = .ok (.ifCond .lt 21, 3) := by decide +kernel
theorem dX7_imageAt_4 : decode cX7_imageAt 4 = .ok (.iload_n 1, 1) := by decide +kernel
theorem dX7_imageAt_5 : decode cX7_imageAt 5 = .ok (.aload_n 0, 1) := by decide +kernel
theorem dX7_imageAt_6 : decode cX7_imageAt 6 = .ok (.getfield 43, 3) := by decide +kernel
theorem dX7_imageAt_9 : decode cX7_imageAt 9 = .ok (.arraylength, 1) := by decide +kernel
theorem dX7_imageAt_10 : decode cX7_imageAt 10 = .ok (.if_icmp .ge 12, 3) := by decide +kernel
theorem dX7_imageAt_13 : decode cX7_imageAt 13 = .ok (.aload_n 0, 1) := by decide +kernel
theorem dX7_imageAt_14 : decode cX7_imageAt 14 = .ok (.getfield 43, 3) := by decide +kernel
theorem dX7_imageAt_17 : decode cX7_imageAt 17 = .ok (.iload_n 1, 1) := by decide +kernel
theorem dX7_imageAt_18 : decode cX7_imageAt 18 = .ok (.aaload, 1) := by decide +kernel
theorem dX7_imageAt_19 : decode cX7_imageAt 19 = .ok (.goto 4, 3) := by decide +kernel
theorem dX7_imageAt_22 : decode cX7_imageAt 22 = .ok (.aconst_null, 1) := by decide +kernel
theorem dX7_imageAt_23 : decode cX7_imageAt 23 = .ok (.areturn, 1) := by decide +kernel
theorem dX7_sheetAt_0 : decode cX7_sheetAt 0 = .ok (.iload_n 1, 1) := by decide +kernel
theorem dX7_sheetAt_1 : decode cX7_sheetAt 1 = .ok (.ifCond .lt 21, 3) := by decide +kernel
theorem dX7_sheetAt_4 : decode cX7_sheetAt 4 = .ok (.iload_n 1, 1) := by decide +kernel
theorem dX7_sheetAt_5 : decode cX7_sheetAt 5 = .ok (.aload_n 0, 1) := by decide +kernel
theorem dX7_sheetAt_6 : decode cX7_sheetAt 6 = .ok (.getfield 50, 3) := by decide +kernel
theorem dX7_sheetAt_9 : decode cX7_sheetAt 9 = .ok (.arraylength, 1) := by decide +kernel
theorem dX7_sheetAt_10 : decode cX7_sheetAt 10 = .ok (.if_icmp .ge 12, 3) := by decide +kernel
theorem dX7_sheetAt_13 : decode cX7_sheetAt 13 = .ok (.aload_n 0, 1) := by decide +kernel
theorem dX7_sheetAt_14 : decode cX7_sheetAt 14 = .ok (.getfield 50, 3) := by decide +kernel
theorem dX7_sheetAt_17 : decode cX7_sheetAt 17 = .ok (.iload_n 1, 1) := by decide +kernel
theorem dX7_sheetAt_18 : decode cX7_sheetAt 18 = .ok (.aaload, 1) := by decide +kernel
theorem dX7_sheetAt_19 : decode cX7_sheetAt 19 = .ok (.goto 4, 3) := by decide +kernel
theorem dX7_sheetAt_22 : decode cX7_sheetAt 22 = .ok (.aconst_null, 1) := by decide +kernel
theorem dX7_sheetAt_23 : decode cX7_sheetAt 23 = .ok (.areturn, 1) := by decide +kernel
theorem dX7_cellsOf_0 : decode cX7_cellsOf 0 = .ok (.aload_n 0, 1) := by decide +kernel
theorem dX7_cellsOf_1 : decode cX7_cellsOf 1 = .ok (.ifnull 17, 3) := by decide +kernel
theorem dX7_cellsOf_4 : decode cX7_cellsOf 4 = .ok (.aload_n 0, 1) := by decide +kernel
theorem dX7_cellsOf_5 : decode cX7_cellsOf 5 = .ok (.invokevirtual 293, 3) := by decide +kernel
theorem dX7_cellsOf_8 : decode cX7_cellsOf 8 = .ok (.ifCond .eq 10, 3) := by decide +kernel
theorem dX7_cellsOf_11 : decode cX7_cellsOf 11 = .ok (.aload_n 0, 1) := by decide +kernel
theorem dX7_cellsOf_12 : decode cX7_cellsOf 12 = .ok (.getfield 296, 3) := by decide +kernel
theorem dX7_cellsOf_15 : decode cX7_cellsOf 15 = .ok (.goto 5, 3) := by decide +kernel
theorem dX7_cellsOf_18 : decode cX7_cellsOf 18 = .ok (.bipush (-4), 2) := by decide +kernel
theorem dX7_cellsOf_20 : decode cX7_cellsOf 20 = .ok (.ireturn, 1) := by decide +kernel
theorem dX7_imagesThere_0 : decode cX7_imagesThere 0 = .ok (.iconst 0, 1) := by decide +kernel
theorem dX7_imagesThere_1 : decode cX7_imagesThere 1 = .ok (.istore_n 1, 1) := by decide +kernel
theorem dX7_imagesThere_2 : decode cX7_imagesThere 2 = .ok (.aload_n 0, 1) := by decide +kernel
theorem dX7_imagesThere_3 : decode cX7_imagesThere 3 = .ok (.getfield 43, 3) := by decide +kernel
theorem dX7_imagesThere_6 : decode cX7_imagesThere 6 = .ok (.astore_n 2, 1) := by decide +kernel
theorem dX7_imagesThere_7 : decode cX7_imagesThere 7 = .ok (.aload_n 2, 1) := by decide +kernel
theorem dX7_imagesThere_8 : decode cX7_imagesThere 8 = .ok (.arraylength, 1) := by decide +kernel
theorem dX7_imagesThere_9 : decode cX7_imagesThere 9 = .ok (.istore_n 3, 1) := by decide +kernel
theorem dX7_imagesThere_10 : decode cX7_imagesThere 10 = .ok (.iconst 0, 1) := by decide +kernel
theorem dX7_imagesThere_11 : decode cX7_imagesThere 11 = .ok (.istore 4, 2) := by decide +kernel
theorem dX7_imagesThere_13 : decode cX7_imagesThere 13 = .ok (.iload 4, 2) := by decide +kernel
theorem dX7_imagesThere_15 : decode cX7_imagesThere 15 = .ok (.iload_n 3, 1) := by decide +kernel
theorem dX7_imagesThere_16 : decode cX7_imagesThere 16 = .ok (.if_icmp .ge 26, 3) := by decide +kernel
theorem dX7_imagesThere_19 : decode cX7_imagesThere 19 = .ok (.aload_n 2, 1) := by decide +kernel
theorem dX7_imagesThere_20 : decode cX7_imagesThere 20 = .ok (.iload 4, 2) := by decide +kernel
theorem dX7_imagesThere_22 : decode cX7_imagesThere 22 = .ok (.aaload, 1) := by decide +kernel
theorem dX7_imagesThere_23 : decode cX7_imagesThere 23 = .ok (.astore 5, 2) := by decide +kernel
theorem dX7_imagesThere_25 : decode cX7_imagesThere 25 = .ok (.aload 5, 2) := by decide +kernel
theorem dX7_imagesThere_27 : decode cX7_imagesThere 27 = .ok (.getfield 115, 3) := by decide +kernel
theorem dX7_imagesThere_30 : decode cX7_imagesThere 30 = .ok (.ifCond .eq 6, 3) := by decide +kernel
theorem dX7_imagesThere_33 : decode cX7_imagesThere 33 = .ok (.iinc 1 1, 3) := by decide +kernel
theorem dX7_imagesThere_36 : decode cX7_imagesThere 36 = .ok (.iinc 4 1, 3) := by decide +kernel
theorem dX7_imagesThere_39 : decode cX7_imagesThere 39 = .ok (.goto (-26), 3) := by decide +kernel
theorem dX7_imagesThere_42 : decode cX7_imagesThere 42 = .ok (.iload_n 1, 1) := by decide +kernel
theorem dX7_imagesThere_43 : decode cX7_imagesThere 43 = .ok (.ireturn, 1) := by decide +kernel
theorem dX7_power_0 : decode cX7_power 0 = .ok (.lconst 1, 1) := by decide +kernel
theorem dX7_power_1 : decode cX7_power 1 = .ok (.lstore_n 3, 1) := by decide +kernel
theorem dX7_power_2 : decode cX7_power 2 = .ok (.iconst 0, 1) := by decide +kernel
theorem dX7_power_3 : decode cX7_power 3 = .ok (.istore 5, 2) := by decide +kernel
theorem dX7_power_5 : decode cX7_power 5 = .ok (.iload 5, 2) := by decide +kernel
theorem dX7_power_7 : decode cX7_power 7 = .ok (.iload_n 2, 1) := by decide +kernel
theorem dX7_power_8 : decode cX7_power 8 = .ok (.if_icmp .ge 13, 3) := by decide +kernel
theorem dX7_power_11 : decode cX7_power 11 = .ok (.lload_n 3, 1) := by decide +kernel
theorem dX7_power_12 : decode cX7_power 12 = .ok (.lload_n 0, 1) := by decide +kernel
theorem dX7_power_13 : decode cX7_power 13 = .ok (.lmul, 1) := by decide +kernel
theorem dX7_power_14 : decode cX7_power 14 = .ok (.lstore_n 3, 1) := by decide +kernel
theorem dX7_power_15 : decode cX7_power 15 = .ok (.iinc 5 1, 3) := by decide +kernel
theorem dX7_power_18 : decode cX7_power 18 = .ok (.goto (-13), 3) := by decide +kernel
theorem dX7_power_21 : decode cX7_power 21 = .ok (.lload_n 3, 1) := by decide +kernel
theorem dX7_power_22 : decode cX7_power 22 = .ok (.lreturn, 1) := by decide +kernel
theorem dX7_lowest_0 : decode cX7_lowest 0 = .ok (.lload_n 2, 1) := by decide +kernel
theorem dX7_lowest_1 : decode cX7_lowest 1 = .ok (.lstore 5, 2) := by decide +kernel
theorem dX7_lowest_3 : decode cX7_lowest 3 = .ok (.lload_n 0, 1) := by decide +kernel
theorem dX7_lowest_4 : decode cX7_lowest 4 = .ok (.lstore 7, 2) := by decide +kernel
theorem dX7_lowest_6 : decode cX7_lowest 6 = .ok (.iconst 0, 1) := by decide +kernel
theorem dX7_lowest_7 : decode cX7_lowest 7 = .ok (.istore 9, 2) := by decide +kernel
theorem dX7_lowest_9 : decode cX7_lowest 9 = .ok (.iload 9, 2) := by decide +kernel
theorem dX7_lowest_11 : decode cX7_lowest 11 = .ok (.sipush 1000, 3) := by decide +kernel
theorem dX7_lowest_14 : decode cX7_lowest 14 = .ok (.if_icmp .ge 31, 3) := by decide +kernel
theorem dX7_lowest_17 : decode cX7_lowest 17 = .ok (.lload 7, 2) := by decide +kernel
theorem dX7_lowest_19 : decode cX7_lowest 19 = .ok (.lconst 0, 1) := by decide +kernel
theorem dX7_lowest_20 : decode cX7_lowest 20 = .ok (.lcmp, 1) := by decide +kernel
theorem dX7_lowest_21 : decode cX7_lowest 21 = .ok (.ifCond .eq 24, 3) := by decide +kernel
theorem dX7_lowest_24 : decode cX7_lowest 24 = .ok (.lload 5, 2) := by decide +kernel
theorem dX7_lowest_26 : decode cX7_lowest 26 = .ok (.lload 7, 2) := by decide +kernel
theorem dX7_lowest_28 : decode cX7_lowest 28 = .ok (.lrem, 1) := by decide +kernel
theorem dX7_lowest_29 : decode cX7_lowest 29 = .ok (.lstore 10, 2) := by decide +kernel
theorem dX7_lowest_31 : decode cX7_lowest 31 = .ok (.lload 7, 2) := by decide +kernel
theorem dX7_lowest_33 : decode cX7_lowest 33 = .ok (.lstore 5, 2) := by decide +kernel
theorem dX7_lowest_35 : decode cX7_lowest 35 = .ok (.lload 10, 2) := by decide +kernel
theorem dX7_lowest_37 : decode cX7_lowest 37 = .ok (.lstore 7, 2) := by decide +kernel
theorem dX7_lowest_39 : decode cX7_lowest 39 = .ok (.iinc 9 1, 3) := by decide +kernel
theorem dX7_lowest_42 : decode cX7_lowest 42 = .ok (.goto (-33), 3) := by decide +kernel
theorem dX7_lowest_45 : decode cX7_lowest 45 = .ok (.iload 4, 2) := by decide +kernel
theorem dX7_lowest_47 : decode cX7_lowest 47 = .ok (.ifCond .ne 7, 3) := by decide +kernel
theorem dX7_lowest_50 : decode cX7_lowest 50 = .ok (.lload_n 0, 1) := by decide +kernel
theorem dX7_lowest_51 : decode cX7_lowest 51 = .ok (.goto 4, 3) := by decide +kernel
theorem dX7_lowest_54 : decode cX7_lowest 54 = .ok (.lload_n 2, 1) := by decide +kernel
theorem dX7_lowest_55 : decode cX7_lowest 55 = .ok (.lstore 9, 2) := by decide +kernel
theorem dX7_lowest_57 : decode cX7_lowest 57 = .ok (.lload 5, 2) := by decide +kernel
theorem dX7_lowest_59 : decode cX7_lowest 59 = .ok (.lconst 0, 1) := by decide +kernel
theorem dX7_lowest_60 : decode cX7_lowest 60 = .ok (.lcmp, 1) := by decide +kernel
theorem dX7_lowest_61 : decode cX7_lowest 61 = .ok (.ifCond .le 11, 3) := by decide +kernel
theorem dX7_lowest_64 : decode cX7_lowest 64 = .ok (.lload 9, 2) := by decide +kernel
theorem dX7_lowest_66 : decode cX7_lowest 66 = .ok (.lload 5, 2) := by decide +kernel
theorem dX7_lowest_68 : decode cX7_lowest 68 = .ok (.ldiv, 1) := by decide +kernel
theorem dX7_lowest_69 : decode cX7_lowest 69 = .ok (.goto 5, 3) := by decide +kernel
theorem dX7_lowest_72 : decode cX7_lowest 72 = .ok (.lload 9, 2) := by decide +kernel
theorem dX7_lowest_74 : decode cX7_lowest 74 = .ok (.lreturn, 1) := by decide +kernel
end
section
-- the world's shape: 60 cells; M k j is what stands at place j of cell k
abbrev XG : Type := va_G × (Nat → ClassId) × (Nat → Nat) × (Nat → Nat) × (Nat → Nat) × (Nat → Nat)
abbrev Mem : Type := Nat → Nat → Int32
abbrev cA (g : XG) : Nat → ClassId := g.2.1
abbrev ad (g : XG) : Nat → Nat := g.2.2.1
abbrev sa (g : XG) : Nat → Nat := g.2.2.2.1
abbrev sk (g : XG) : Nat → Nat := g.2.2.2.2.1
abbrev sv (g : XG) : Nat → Nat := g.2.2.2.2.2
def mu (M : Mem) (k j : Nat) (x : Int32) : Mem := fun c => if c = k then upd (M c) j x else M c
def xty (g : XG) : List (ClassId × FieldType) := [(cA g 0, .int), (cA g 1, .byte), (cA g 2, .boolean), (cA g 3, .object "ButterChurn$Image"), (cA g 4, .object "ButterChurn$Sheet")]
def WL (g : XG) (M : Mem) : va_W := [(ad g 0, .inr (7, [.ref (ad g 1), .ref (ad g 6), .ref (ad g 14), .ref (ad g 16), .ref (ad g 18), .ref (ad g 19), .ref (ad g 26), .ref (ad g 35), .ref (ad g 36), .ref (ad g 37), .int (M 0 10), .int (M 0 11)])),
  (ad g 1, .inr (6, [.ref (ad g 2), .ref (ad g 3), .ref (ad g 4), .ref (ad g 5), .int (M 1 4)])),
  (ad g 2, .inl (cA g 0, 9, .inl (M 2))),
  (ad g 3, .inl (cA g 0, 4, .inl (M 3))),
  (ad g 4, .inl (cA g 0, 8, .inl (M 4))),
  (ad g 5, .inl (cA g 0, 8, .inl (M 5))),
  (ad g 6, .inr (3, [.ref (ad g 7), .ref (ad g 9), .int (M 6 2), .int (M 6 3), .int (M 6 4), .int (M 6 5), .int (M 6 6), .int (M 6 7)])),
  (ad g 7, .inr (5, [.ref (ad g 8), .int (M 7 1), .int (M 7 2), .int (M 7 3), .int (M 7 4), .int (M 7 5)])),
  (ad g 8, .inl (cA g 1, 320, .inl (M 8))),
  (ad g 9, .inr (6, [.ref (ad g 10), .ref (ad g 11), .ref (ad g 12), .ref (ad g 13), .int (M 9 4)])),
  (ad g 10, .inl (cA g 0, 9, .inl (M 10))),
  (ad g 11, .inl (cA g 0, 4, .inl (M 11))),
  (ad g 12, .inl (cA g 0, 8, .inl (M 12))),
  (ad g 13, .inl (cA g 0, 8, .inl (M 13))),
  (ad g 14, .inr (1, [.ref (ad g 15), .int (M 14 1), .int (M 14 2), .int (M 14 3), .int (M 14 4), .int (M 14 5), .int (M 14 6)])),
  (ad g 15, .inl (cA g 0, 7, .inl (M 15))),
  (ad g 16, .inr (1, [.ref (ad g 17), .int (M 16 1), .int (M 16 2), .int (M 16 3), .int (M 16 4), .int (M 16 5), .int (M 16 6)])),
  (ad g 17, .inl (cA g 0, 7, .inl (M 17))),
  (ad g 18, .inr (0, [.int (M 18 0), .int (M 18 1), .int (M 18 2), .int (M 18 3), .int (M 18 4)])),
  (ad g 19, .inl (cA g 3, 2, .inr (.inr (.inr (.inr (fun i => if i = 0 then some (ad g 20) else some (ad g 23))))))),
  (ad g 20, .inr (2, [.ref (ad g 21), .int (M 20 1)])),
  (ad g 21, .inr (1, [.ref (ad g 22), .int (M 21 1), .int (M 21 2), .int (M 21 3), .int (M 21 4), .int (M 21 5), .int (M 21 6)])),
  (ad g 22, .inl (cA g 0, 7, .inl (M 22))),
  (ad g 23, .inr (2, [.ref (ad g 24), .int (M 23 1)])),
  (ad g 24, .inr (1, [.ref (ad g 25), .int (M 24 1), .int (M 24 2), .int (M 24 3), .int (M 24 4), .int (M 24 5), .int (M 24 6)])),
  (ad g 25, .inl (cA g 0, 7, .inl (M 25))),
  (ad g 26, .inl (cA g 4, 4, .inr (.inr (.inr (.inr (fun i => if i = 0 then some (ad g 27) else if i = 1 then some (ad g 29) else if i = 2 then some (ad g 31) else some (ad g 33))))))),
  (ad g 27, .inr (4, [.ref (ad g 28), .int (M 27 1), .int (M 27 2)])),
  (ad g 28, .inl (cA g 0, 40, .inl (M 28))),
  (ad g 29, .inr (4, [.ref (ad g 30), .int (M 29 1), .int (M 29 2)])),
  (ad g 30, .inl (cA g 0, 40, .inl (M 30))),
  (ad g 31, .inr (4, [.ref (ad g 32), .int (M 31 1), .int (M 31 2)])),
  (ad g 32, .inl (cA g 0, 40, .inl (M 32))),
  (ad g 33, .inr (4, [.ref (ad g 34), .int (M 33 1), .int (M 33 2)])),
  (ad g 34, .inl (cA g 0, 40, .inl (M 34))),
  (ad g 35, .inl (cA g 0, 8, .inl (M 35))),
  (ad g 36, .inl (cA g 0, 8, .inl (M 36))),
  (ad g 37, .inl (cA g 0, 7, .inl (M 37))),
  (ad g 38, .inr (8, [.ref (ad g 39), .int (M 38 1), .int (M 38 2), .int (M 38 3), .int (M 38 4), .int (M 38 5), .int (M 38 6), .int (M 38 7), .int (M 38 8), .ref (ad g 40), .ref (ad g 41), .ref (ad g 42), .ref (ad g 43), .ref (ad g 44), .ref (ad g 45), .ref (ad g 46), .ref (ad g 47), .ref (ad g 48), .int (M 38 18), .ref (ad g 49), .ref (ad g 50), .int (M 38 21), .int (M 38 22), .ref (ad g 51), .int (M 38 24), .ref (ad g 52), .ref (ad g 53), .ref (ad g 54), .int (M 38 28), .ref (ad g 55), .ref (ad g 56), .ref (ad g 57), .ref (ad g 58), .ref (ad g 59), .int (M 38 34)])),
  (ad g 39, .inl (cA g 0, 320, .inl (M 39))),
  (ad g 40, .inl (cA g 0, 9, .inl (M 40))),
  (ad g 41, .inl (cA g 0, 34, .inl (M 41))),
  (ad g 42, .inl (cA g 0, 7, .inl (M 42))),
  (ad g 43, .inl (cA g 0, 7, .inl (M 43))),
  (ad g 44, .inl (cA g 0, 13, .inl (M 44))),
  (ad g 45, .inl (cA g 0, 13, .inl (M 45))),
  (ad g 46, .inl (cA g 0, 13, .inl (M 46))),
  (ad g 47, .inl (cA g 0, 13, .inl (M 47))),
  (ad g 48, .inl (cA g 0, 16, .inl (M 48))),
  (ad g 49, .inl (cA g 0, 13, .inl (M 49))),
  (ad g 50, .inl (cA g 0, 16, .inl (M 50))),
  (ad g 51, .inl (cA g 0, 80, .inl (M 51))),
  (ad g 52, .inl (cA g 0, 7, .inl (M 52))),
  (ad g 53, .inl (cA g 0, 4, .inl (M 53))),
  (ad g 54, .inl (cA g 0, 16, .inl (M 54))),
  (ad g 55, .inl (cA g 0, 8, .inl (M 55))),
  (ad g 56, .inl (cA g 2, 2, .inl (M 56))),
  (ad g 57, .inl (cA g 0, 4, .inl (M 57))),
  (ad g 58, .inl (cA g 0, 4, .inl (M 58))),
  (ad g 59, .inl (cA g 0, 160, .inl (M 59)))]
abbrev isO (ci k : Nat) : Prop := (ci, k) ∈ ([(7, 0), (6, 1), (3, 6), (5, 7), (6, 9), (1, 14), (1, 16), (0, 18), (2, 20), (1, 21), (2, 23), (1, 24), (4, 27), (4, 29), (4, 31), (4, 33), (8, 38)] : List (Nat × Nat))
abbrev isI (k n : Nat) : Prop := (k, n) ∈ ([(2, 9), (3, 4), (4, 8), (5, 8), (10, 9), (11, 4), (12, 8), (13, 8), (15, 7), (17, 7), (22, 7), (25, 7), (28, 40), (30, 40), (32, 40), (34, 40), (35, 8), (36, 8), (37, 7), (39, 320), (40, 9), (41, 34), (42, 7), (43, 7), (44, 13), (45, 13), (46, 13), (47, 13), (48, 16), (49, 13), (50, 16), (51, 80), (52, 7), (53, 4), (54, 16), (55, 8), (57, 4), (58, 4), (59, 160)] : List (Nat × Nat))
abbrev isB (k n : Nat) : Prop := (k, n) ∈ ([(8, 320)] : List (Nat × Nat))
abbrev isZ (k n : Nat) : Prop := (k, n) ∈ ([(56, 2)] : List (Nat × Nat))
theorem wl_ad (g : XG) (M : Mem) : ∀ (k : Nat) (q : Nat × va_E), (WL g M)[k]? = some q → q.1 = ad g k ∧ k < 60 := by
  intro k q h
  have hk : k < 60 := (List.getElem?_eq_some_iff.mp h).1
  refine ⟨?_, hk⟩
  match k, hk, h with
  | 0, _, h => cases h; rfl
  | 1, _, h => cases h; rfl
  | 2, _, h => cases h; rfl
  | 3, _, h => cases h; rfl
  | 4, _, h => cases h; rfl
  | 5, _, h => cases h; rfl
  | 6, _, h => cases h; rfl
  | 7, _, h => cases h; rfl
  | 8, _, h => cases h; rfl
  | 9, _, h => cases h; rfl
  | 10, _, h => cases h; rfl
  | 11, _, h => cases h; rfl
  | 12, _, h => cases h; rfl
  | 13, _, h => cases h; rfl
  | 14, _, h => cases h; rfl
  | 15, _, h => cases h; rfl
  | 16, _, h => cases h; rfl
  | 17, _, h => cases h; rfl
  | 18, _, h => cases h; rfl
  | 19, _, h => cases h; rfl
  | 20, _, h => cases h; rfl
  | 21, _, h => cases h; rfl
  | 22, _, h => cases h; rfl
  | 23, _, h => cases h; rfl
  | 24, _, h => cases h; rfl
  | 25, _, h => cases h; rfl
  | 26, _, h => cases h; rfl
  | 27, _, h => cases h; rfl
  | 28, _, h => cases h; rfl
  | 29, _, h => cases h; rfl
  | 30, _, h => cases h; rfl
  | 31, _, h => cases h; rfl
  | 32, _, h => cases h; rfl
  | 33, _, h => cases h; rfl
  | 34, _, h => cases h; rfl
  | 35, _, h => cases h; rfl
  | 36, _, h => cases h; rfl
  | 37, _, h => cases h; rfl
  | 38, _, h => cases h; rfl
  | 39, _, h => cases h; rfl
  | 40, _, h => cases h; rfl
  | 41, _, h => cases h; rfl
  | 42, _, h => cases h; rfl
  | 43, _, h => cases h; rfl
  | 44, _, h => cases h; rfl
  | 45, _, h => cases h; rfl
  | 46, _, h => cases h; rfl
  | 47, _, h => cases h; rfl
  | 48, _, h => cases h; rfl
  | 49, _, h => cases h; rfl
  | 50, _, h => cases h; rfl
  | 51, _, h => cases h; rfl
  | 52, _, h => cases h; rfl
  | 53, _, h => cases h; rfl
  | 54, _, h => cases h; rfl
  | 55, _, h => cases h; rfl
  | 56, _, h => cases h; rfl
  | 57, _, h => cases h; rfl
  | 58, _, h => cases h; rfl
  | 59, _, h => cases h; rfl
  | n + 60, hk, _ => omega
theorem wl_len (g : XG) (M : Mem) : (WL g M).length = 60 := rfl
theorem kk_0 {k : Nat} (h : isO 0 k) : k = 18 := by simpa [isO] using h
theorem ob_0 {g : XG} {M : Mem} : (WL g M)[18]? = some (ad g 18, .inr (0, [.int (M 18 0), .int (M 18 1), .int (M 18 2), .int (M 18 3), .int (M 18 4)])) := rfl
theorem os_0_0 {g : XG} {M : Mem} {y : Int32} : (WL g M).set 18 (ad g 18, .inr (0, [.int y, .int (M 18 1), .int (M 18 2), .int (M 18 3), .int (M 18 4)])) = WL g (mu M 18 0 y) := rfl
theorem os_0_1 {g : XG} {M : Mem} {y : Int32} : (WL g M).set 18 (ad g 18, .inr (0, [.int (M 18 0), .int y, .int (M 18 2), .int (M 18 3), .int (M 18 4)])) = WL g (mu M 18 1 y) := rfl
theorem os_0_2 {g : XG} {M : Mem} {y : Int32} : (WL g M).set 18 (ad g 18, .inr (0, [.int (M 18 0), .int (M 18 1), .int y, .int (M 18 3), .int (M 18 4)])) = WL g (mu M 18 2 y) := rfl
theorem os_0_3 {g : XG} {M : Mem} {y : Int32} : (WL g M).set 18 (ad g 18, .inr (0, [.int (M 18 0), .int (M 18 1), .int (M 18 2), .int y, .int (M 18 4)])) = WL g (mu M 18 3 y) := rfl
theorem os_0_4 {g : XG} {M : Mem} {y : Int32} : (WL g M).set 18 (ad g 18, .inr (0, [.int (M 18 0), .int (M 18 1), .int (M 18 2), .int (M 18 3), .int y])) = WL g (mu M 18 4 y) := rfl
theorem kk_1 {k : Nat} (h : isO 1 k) : k = 14 ∨ k = 16 ∨ k = 21 ∨ k = 24 := by simpa [isO] using h
theorem ob_1 {g : XG} {M : Mem} {k : Nat} (h : isO 1 k) : (WL g M)[k]? = some (ad g k, .inr (1, [.ref (ad g (k + 1)), .int (M k 1), .int (M k 2), .int (M k 3), .int (M k 4), .int (M k 5), .int (M k 6)])) := by rcases kk_1 h with rfl | rfl | rfl | rfl <;> rfl
theorem os_1_1 {g : XG} {M : Mem} {y : Int32} {k : Nat} (h : isO 1 k) : (WL g M).set k (ad g k, .inr (1, [.ref (ad g (k + 1)), .int y, .int (M k 2), .int (M k 3), .int (M k 4), .int (M k 5), .int (M k 6)])) = WL g (mu M k 1 y) := by rcases kk_1 h with rfl | rfl | rfl | rfl <;> rfl
theorem os_1_2 {g : XG} {M : Mem} {y : Int32} {k : Nat} (h : isO 1 k) : (WL g M).set k (ad g k, .inr (1, [.ref (ad g (k + 1)), .int (M k 1), .int y, .int (M k 3), .int (M k 4), .int (M k 5), .int (M k 6)])) = WL g (mu M k 2 y) := by rcases kk_1 h with rfl | rfl | rfl | rfl <;> rfl
theorem os_1_3 {g : XG} {M : Mem} {y : Int32} {k : Nat} (h : isO 1 k) : (WL g M).set k (ad g k, .inr (1, [.ref (ad g (k + 1)), .int (M k 1), .int (M k 2), .int y, .int (M k 4), .int (M k 5), .int (M k 6)])) = WL g (mu M k 3 y) := by rcases kk_1 h with rfl | rfl | rfl | rfl <;> rfl
theorem os_1_4 {g : XG} {M : Mem} {y : Int32} {k : Nat} (h : isO 1 k) : (WL g M).set k (ad g k, .inr (1, [.ref (ad g (k + 1)), .int (M k 1), .int (M k 2), .int (M k 3), .int y, .int (M k 5), .int (M k 6)])) = WL g (mu M k 4 y) := by rcases kk_1 h with rfl | rfl | rfl | rfl <;> rfl
theorem os_1_5 {g : XG} {M : Mem} {y : Int32} {k : Nat} (h : isO 1 k) : (WL g M).set k (ad g k, .inr (1, [.ref (ad g (k + 1)), .int (M k 1), .int (M k 2), .int (M k 3), .int (M k 4), .int y, .int (M k 6)])) = WL g (mu M k 5 y) := by rcases kk_1 h with rfl | rfl | rfl | rfl <;> rfl
theorem os_1_6 {g : XG} {M : Mem} {y : Int32} {k : Nat} (h : isO 1 k) : (WL g M).set k (ad g k, .inr (1, [.ref (ad g (k + 1)), .int (M k 1), .int (M k 2), .int (M k 3), .int (M k 4), .int (M k 5), .int y])) = WL g (mu M k 6 y) := by rcases kk_1 h with rfl | rfl | rfl | rfl <;> rfl
theorem kk_2 {k : Nat} (h : isO 2 k) : k = 20 ∨ k = 23 := by simpa [isO] using h
theorem ob_2 {g : XG} {M : Mem} {k : Nat} (h : isO 2 k) : (WL g M)[k]? = some (ad g k, .inr (2, [.ref (ad g (k + 1)), .int (M k 1)])) := by rcases kk_2 h with rfl | rfl <;> rfl
theorem os_2_1 {g : XG} {M : Mem} {y : Int32} {k : Nat} (h : isO 2 k) : (WL g M).set k (ad g k, .inr (2, [.ref (ad g (k + 1)), .int y])) = WL g (mu M k 1 y) := by rcases kk_2 h with rfl | rfl <;> rfl
theorem kk_3 {k : Nat} (h : isO 3 k) : k = 6 := by simpa [isO] using h
theorem ob_3 {g : XG} {M : Mem} : (WL g M)[6]? = some (ad g 6, .inr (3, [.ref (ad g 7), .ref (ad g 9), .int (M 6 2), .int (M 6 3), .int (M 6 4), .int (M 6 5), .int (M 6 6), .int (M 6 7)])) := rfl
theorem os_3_2 {g : XG} {M : Mem} {y : Int32} : (WL g M).set 6 (ad g 6, .inr (3, [.ref (ad g 7), .ref (ad g 9), .int y, .int (M 6 3), .int (M 6 4), .int (M 6 5), .int (M 6 6), .int (M 6 7)])) = WL g (mu M 6 2 y) := rfl
theorem os_3_3 {g : XG} {M : Mem} {y : Int32} : (WL g M).set 6 (ad g 6, .inr (3, [.ref (ad g 7), .ref (ad g 9), .int (M 6 2), .int y, .int (M 6 4), .int (M 6 5), .int (M 6 6), .int (M 6 7)])) = WL g (mu M 6 3 y) := rfl
theorem os_3_4 {g : XG} {M : Mem} {y : Int32} : (WL g M).set 6 (ad g 6, .inr (3, [.ref (ad g 7), .ref (ad g 9), .int (M 6 2), .int (M 6 3), .int y, .int (M 6 5), .int (M 6 6), .int (M 6 7)])) = WL g (mu M 6 4 y) := rfl
theorem os_3_5 {g : XG} {M : Mem} {y : Int32} : (WL g M).set 6 (ad g 6, .inr (3, [.ref (ad g 7), .ref (ad g 9), .int (M 6 2), .int (M 6 3), .int (M 6 4), .int y, .int (M 6 6), .int (M 6 7)])) = WL g (mu M 6 5 y) := rfl
theorem os_3_6 {g : XG} {M : Mem} {y : Int32} : (WL g M).set 6 (ad g 6, .inr (3, [.ref (ad g 7), .ref (ad g 9), .int (M 6 2), .int (M 6 3), .int (M 6 4), .int (M 6 5), .int y, .int (M 6 7)])) = WL g (mu M 6 6 y) := rfl
theorem os_3_7 {g : XG} {M : Mem} {y : Int32} : (WL g M).set 6 (ad g 6, .inr (3, [.ref (ad g 7), .ref (ad g 9), .int (M 6 2), .int (M 6 3), .int (M 6 4), .int (M 6 5), .int (M 6 6), .int y])) = WL g (mu M 6 7 y) := rfl
theorem kk_4 {k : Nat} (h : isO 4 k) : k = 27 ∨ k = 29 ∨ k = 31 ∨ k = 33 := by simpa [isO] using h
theorem ob_4 {g : XG} {M : Mem} {k : Nat} (h : isO 4 k) : (WL g M)[k]? = some (ad g k, .inr (4, [.ref (ad g (k + 1)), .int (M k 1), .int (M k 2)])) := by rcases kk_4 h with rfl | rfl | rfl | rfl <;> rfl
theorem os_4_1 {g : XG} {M : Mem} {y : Int32} {k : Nat} (h : isO 4 k) : (WL g M).set k (ad g k, .inr (4, [.ref (ad g (k + 1)), .int y, .int (M k 2)])) = WL g (mu M k 1 y) := by rcases kk_4 h with rfl | rfl | rfl | rfl <;> rfl
theorem os_4_2 {g : XG} {M : Mem} {y : Int32} {k : Nat} (h : isO 4 k) : (WL g M).set k (ad g k, .inr (4, [.ref (ad g (k + 1)), .int (M k 1), .int y])) = WL g (mu M k 2 y) := by rcases kk_4 h with rfl | rfl | rfl | rfl <;> rfl
theorem kk_5 {k : Nat} (h : isO 5 k) : k = 7 := by simpa [isO] using h
theorem ob_5 {g : XG} {M : Mem} : (WL g M)[7]? = some (ad g 7, .inr (5, [.ref (ad g 8), .int (M 7 1), .int (M 7 2), .int (M 7 3), .int (M 7 4), .int (M 7 5)])) := rfl
theorem os_5_1 {g : XG} {M : Mem} {y : Int32} : (WL g M).set 7 (ad g 7, .inr (5, [.ref (ad g 8), .int y, .int (M 7 2), .int (M 7 3), .int (M 7 4), .int (M 7 5)])) = WL g (mu M 7 1 y) := rfl
theorem os_5_2 {g : XG} {M : Mem} {y : Int32} : (WL g M).set 7 (ad g 7, .inr (5, [.ref (ad g 8), .int (M 7 1), .int y, .int (M 7 3), .int (M 7 4), .int (M 7 5)])) = WL g (mu M 7 2 y) := rfl
theorem os_5_3 {g : XG} {M : Mem} {y : Int32} : (WL g M).set 7 (ad g 7, .inr (5, [.ref (ad g 8), .int (M 7 1), .int (M 7 2), .int y, .int (M 7 4), .int (M 7 5)])) = WL g (mu M 7 3 y) := rfl
theorem os_5_4 {g : XG} {M : Mem} {y : Int32} : (WL g M).set 7 (ad g 7, .inr (5, [.ref (ad g 8), .int (M 7 1), .int (M 7 2), .int (M 7 3), .int y, .int (M 7 5)])) = WL g (mu M 7 4 y) := rfl
theorem os_5_5 {g : XG} {M : Mem} {y : Int32} : (WL g M).set 7 (ad g 7, .inr (5, [.ref (ad g 8), .int (M 7 1), .int (M 7 2), .int (M 7 3), .int (M 7 4), .int y])) = WL g (mu M 7 5 y) := rfl
theorem kk_6 {k : Nat} (h : isO 6 k) : k = 1 ∨ k = 9 := by simpa [isO] using h
theorem ob_6 {g : XG} {M : Mem} {k : Nat} (h : isO 6 k) : (WL g M)[k]? = some (ad g k, .inr (6, [.ref (ad g (k + 1)), .ref (ad g (k + 2)), .ref (ad g (k + 3)), .ref (ad g (k + 4)), .int (M k 4)])) := by rcases kk_6 h with rfl | rfl <;> rfl
theorem os_6_4 {g : XG} {M : Mem} {y : Int32} {k : Nat} (h : isO 6 k) : (WL g M).set k (ad g k, .inr (6, [.ref (ad g (k + 1)), .ref (ad g (k + 2)), .ref (ad g (k + 3)), .ref (ad g (k + 4)), .int y])) = WL g (mu M k 4 y) := by rcases kk_6 h with rfl | rfl <;> rfl
theorem kk_7 {k : Nat} (h : isO 7 k) : k = 0 := by simpa [isO] using h
theorem ob_7 {g : XG} {M : Mem} : (WL g M)[0]? = some (ad g 0, .inr (7, [.ref (ad g 1), .ref (ad g 6), .ref (ad g 14), .ref (ad g 16), .ref (ad g 18), .ref (ad g 19), .ref (ad g 26), .ref (ad g 35), .ref (ad g 36), .ref (ad g 37), .int (M 0 10), .int (M 0 11)])) := rfl
theorem os_7_10 {g : XG} {M : Mem} {y : Int32} : (WL g M).set 0 (ad g 0, .inr (7, [.ref (ad g 1), .ref (ad g 6), .ref (ad g 14), .ref (ad g 16), .ref (ad g 18), .ref (ad g 19), .ref (ad g 26), .ref (ad g 35), .ref (ad g 36), .ref (ad g 37), .int y, .int (M 0 11)])) = WL g (mu M 0 10 y) := rfl
theorem os_7_11 {g : XG} {M : Mem} {y : Int32} : (WL g M).set 0 (ad g 0, .inr (7, [.ref (ad g 1), .ref (ad g 6), .ref (ad g 14), .ref (ad g 16), .ref (ad g 18), .ref (ad g 19), .ref (ad g 26), .ref (ad g 35), .ref (ad g 36), .ref (ad g 37), .int (M 0 10), .int y])) = WL g (mu M 0 11 y) := rfl
theorem kk_8 {k : Nat} (h : isO 8 k) : k = 38 := by simpa [isO] using h
theorem ob_8 {g : XG} {M : Mem} : (WL g M)[38]? = some (ad g 38, .inr (8, [.ref (ad g 39), .int (M 38 1), .int (M 38 2), .int (M 38 3), .int (M 38 4), .int (M 38 5), .int (M 38 6), .int (M 38 7), .int (M 38 8), .ref (ad g 40), .ref (ad g 41), .ref (ad g 42), .ref (ad g 43), .ref (ad g 44), .ref (ad g 45), .ref (ad g 46), .ref (ad g 47), .ref (ad g 48), .int (M 38 18), .ref (ad g 49), .ref (ad g 50), .int (M 38 21), .int (M 38 22), .ref (ad g 51), .int (M 38 24), .ref (ad g 52), .ref (ad g 53), .ref (ad g 54), .int (M 38 28), .ref (ad g 55), .ref (ad g 56), .ref (ad g 57), .ref (ad g 58), .ref (ad g 59), .int (M 38 34)])) := rfl
theorem os_8_1 {g : XG} {M : Mem} {y : Int32} : (WL g M).set 38 (ad g 38, .inr (8, [.ref (ad g 39), .int y, .int (M 38 2), .int (M 38 3), .int (M 38 4), .int (M 38 5), .int (M 38 6), .int (M 38 7), .int (M 38 8), .ref (ad g 40), .ref (ad g 41), .ref (ad g 42), .ref (ad g 43), .ref (ad g 44), .ref (ad g 45), .ref (ad g 46), .ref (ad g 47), .ref (ad g 48), .int (M 38 18), .ref (ad g 49), .ref (ad g 50), .int (M 38 21), .int (M 38 22), .ref (ad g 51), .int (M 38 24), .ref (ad g 52), .ref (ad g 53), .ref (ad g 54), .int (M 38 28), .ref (ad g 55), .ref (ad g 56), .ref (ad g 57), .ref (ad g 58), .ref (ad g 59), .int (M 38 34)])) = WL g (mu M 38 1 y) := rfl
theorem os_8_2 {g : XG} {M : Mem} {y : Int32} : (WL g M).set 38 (ad g 38, .inr (8, [.ref (ad g 39), .int (M 38 1), .int y, .int (M 38 3), .int (M 38 4), .int (M 38 5), .int (M 38 6), .int (M 38 7), .int (M 38 8), .ref (ad g 40), .ref (ad g 41), .ref (ad g 42), .ref (ad g 43), .ref (ad g 44), .ref (ad g 45), .ref (ad g 46), .ref (ad g 47), .ref (ad g 48), .int (M 38 18), .ref (ad g 49), .ref (ad g 50), .int (M 38 21), .int (M 38 22), .ref (ad g 51), .int (M 38 24), .ref (ad g 52), .ref (ad g 53), .ref (ad g 54), .int (M 38 28), .ref (ad g 55), .ref (ad g 56), .ref (ad g 57), .ref (ad g 58), .ref (ad g 59), .int (M 38 34)])) = WL g (mu M 38 2 y) := rfl
theorem os_8_3 {g : XG} {M : Mem} {y : Int32} : (WL g M).set 38 (ad g 38, .inr (8, [.ref (ad g 39), .int (M 38 1), .int (M 38 2), .int y, .int (M 38 4), .int (M 38 5), .int (M 38 6), .int (M 38 7), .int (M 38 8), .ref (ad g 40), .ref (ad g 41), .ref (ad g 42), .ref (ad g 43), .ref (ad g 44), .ref (ad g 45), .ref (ad g 46), .ref (ad g 47), .ref (ad g 48), .int (M 38 18), .ref (ad g 49), .ref (ad g 50), .int (M 38 21), .int (M 38 22), .ref (ad g 51), .int (M 38 24), .ref (ad g 52), .ref (ad g 53), .ref (ad g 54), .int (M 38 28), .ref (ad g 55), .ref (ad g 56), .ref (ad g 57), .ref (ad g 58), .ref (ad g 59), .int (M 38 34)])) = WL g (mu M 38 3 y) := rfl
theorem os_8_4 {g : XG} {M : Mem} {y : Int32} : (WL g M).set 38 (ad g 38, .inr (8, [.ref (ad g 39), .int (M 38 1), .int (M 38 2), .int (M 38 3), .int y, .int (M 38 5), .int (M 38 6), .int (M 38 7), .int (M 38 8), .ref (ad g 40), .ref (ad g 41), .ref (ad g 42), .ref (ad g 43), .ref (ad g 44), .ref (ad g 45), .ref (ad g 46), .ref (ad g 47), .ref (ad g 48), .int (M 38 18), .ref (ad g 49), .ref (ad g 50), .int (M 38 21), .int (M 38 22), .ref (ad g 51), .int (M 38 24), .ref (ad g 52), .ref (ad g 53), .ref (ad g 54), .int (M 38 28), .ref (ad g 55), .ref (ad g 56), .ref (ad g 57), .ref (ad g 58), .ref (ad g 59), .int (M 38 34)])) = WL g (mu M 38 4 y) := rfl
theorem os_8_5 {g : XG} {M : Mem} {y : Int32} : (WL g M).set 38 (ad g 38, .inr (8, [.ref (ad g 39), .int (M 38 1), .int (M 38 2), .int (M 38 3), .int (M 38 4), .int y, .int (M 38 6), .int (M 38 7), .int (M 38 8), .ref (ad g 40), .ref (ad g 41), .ref (ad g 42), .ref (ad g 43), .ref (ad g 44), .ref (ad g 45), .ref (ad g 46), .ref (ad g 47), .ref (ad g 48), .int (M 38 18), .ref (ad g 49), .ref (ad g 50), .int (M 38 21), .int (M 38 22), .ref (ad g 51), .int (M 38 24), .ref (ad g 52), .ref (ad g 53), .ref (ad g 54), .int (M 38 28), .ref (ad g 55), .ref (ad g 56), .ref (ad g 57), .ref (ad g 58), .ref (ad g 59), .int (M 38 34)])) = WL g (mu M 38 5 y) := rfl
theorem os_8_6 {g : XG} {M : Mem} {y : Int32} : (WL g M).set 38 (ad g 38, .inr (8, [.ref (ad g 39), .int (M 38 1), .int (M 38 2), .int (M 38 3), .int (M 38 4), .int (M 38 5), .int y, .int (M 38 7), .int (M 38 8), .ref (ad g 40), .ref (ad g 41), .ref (ad g 42), .ref (ad g 43), .ref (ad g 44), .ref (ad g 45), .ref (ad g 46), .ref (ad g 47), .ref (ad g 48), .int (M 38 18), .ref (ad g 49), .ref (ad g 50), .int (M 38 21), .int (M 38 22), .ref (ad g 51), .int (M 38 24), .ref (ad g 52), .ref (ad g 53), .ref (ad g 54), .int (M 38 28), .ref (ad g 55), .ref (ad g 56), .ref (ad g 57), .ref (ad g 58), .ref (ad g 59), .int (M 38 34)])) = WL g (mu M 38 6 y) := rfl
theorem os_8_7 {g : XG} {M : Mem} {y : Int32} : (WL g M).set 38 (ad g 38, .inr (8, [.ref (ad g 39), .int (M 38 1), .int (M 38 2), .int (M 38 3), .int (M 38 4), .int (M 38 5), .int (M 38 6), .int y, .int (M 38 8), .ref (ad g 40), .ref (ad g 41), .ref (ad g 42), .ref (ad g 43), .ref (ad g 44), .ref (ad g 45), .ref (ad g 46), .ref (ad g 47), .ref (ad g 48), .int (M 38 18), .ref (ad g 49), .ref (ad g 50), .int (M 38 21), .int (M 38 22), .ref (ad g 51), .int (M 38 24), .ref (ad g 52), .ref (ad g 53), .ref (ad g 54), .int (M 38 28), .ref (ad g 55), .ref (ad g 56), .ref (ad g 57), .ref (ad g 58), .ref (ad g 59), .int (M 38 34)])) = WL g (mu M 38 7 y) := rfl
theorem os_8_8 {g : XG} {M : Mem} {y : Int32} : (WL g M).set 38 (ad g 38, .inr (8, [.ref (ad g 39), .int (M 38 1), .int (M 38 2), .int (M 38 3), .int (M 38 4), .int (M 38 5), .int (M 38 6), .int (M 38 7), .int y, .ref (ad g 40), .ref (ad g 41), .ref (ad g 42), .ref (ad g 43), .ref (ad g 44), .ref (ad g 45), .ref (ad g 46), .ref (ad g 47), .ref (ad g 48), .int (M 38 18), .ref (ad g 49), .ref (ad g 50), .int (M 38 21), .int (M 38 22), .ref (ad g 51), .int (M 38 24), .ref (ad g 52), .ref (ad g 53), .ref (ad g 54), .int (M 38 28), .ref (ad g 55), .ref (ad g 56), .ref (ad g 57), .ref (ad g 58), .ref (ad g 59), .int (M 38 34)])) = WL g (mu M 38 8 y) := rfl
theorem os_8_18 {g : XG} {M : Mem} {y : Int32} : (WL g M).set 38 (ad g 38, .inr (8, [.ref (ad g 39), .int (M 38 1), .int (M 38 2), .int (M 38 3), .int (M 38 4), .int (M 38 5), .int (M 38 6), .int (M 38 7), .int (M 38 8), .ref (ad g 40), .ref (ad g 41), .ref (ad g 42), .ref (ad g 43), .ref (ad g 44), .ref (ad g 45), .ref (ad g 46), .ref (ad g 47), .ref (ad g 48), .int y, .ref (ad g 49), .ref (ad g 50), .int (M 38 21), .int (M 38 22), .ref (ad g 51), .int (M 38 24), .ref (ad g 52), .ref (ad g 53), .ref (ad g 54), .int (M 38 28), .ref (ad g 55), .ref (ad g 56), .ref (ad g 57), .ref (ad g 58), .ref (ad g 59), .int (M 38 34)])) = WL g (mu M 38 18 y) := rfl
theorem os_8_21 {g : XG} {M : Mem} {y : Int32} : (WL g M).set 38 (ad g 38, .inr (8, [.ref (ad g 39), .int (M 38 1), .int (M 38 2), .int (M 38 3), .int (M 38 4), .int (M 38 5), .int (M 38 6), .int (M 38 7), .int (M 38 8), .ref (ad g 40), .ref (ad g 41), .ref (ad g 42), .ref (ad g 43), .ref (ad g 44), .ref (ad g 45), .ref (ad g 46), .ref (ad g 47), .ref (ad g 48), .int (M 38 18), .ref (ad g 49), .ref (ad g 50), .int y, .int (M 38 22), .ref (ad g 51), .int (M 38 24), .ref (ad g 52), .ref (ad g 53), .ref (ad g 54), .int (M 38 28), .ref (ad g 55), .ref (ad g 56), .ref (ad g 57), .ref (ad g 58), .ref (ad g 59), .int (M 38 34)])) = WL g (mu M 38 21 y) := rfl
theorem os_8_22 {g : XG} {M : Mem} {y : Int32} : (WL g M).set 38 (ad g 38, .inr (8, [.ref (ad g 39), .int (M 38 1), .int (M 38 2), .int (M 38 3), .int (M 38 4), .int (M 38 5), .int (M 38 6), .int (M 38 7), .int (M 38 8), .ref (ad g 40), .ref (ad g 41), .ref (ad g 42), .ref (ad g 43), .ref (ad g 44), .ref (ad g 45), .ref (ad g 46), .ref (ad g 47), .ref (ad g 48), .int (M 38 18), .ref (ad g 49), .ref (ad g 50), .int (M 38 21), .int y, .ref (ad g 51), .int (M 38 24), .ref (ad g 52), .ref (ad g 53), .ref (ad g 54), .int (M 38 28), .ref (ad g 55), .ref (ad g 56), .ref (ad g 57), .ref (ad g 58), .ref (ad g 59), .int (M 38 34)])) = WL g (mu M 38 22 y) := rfl
theorem os_8_24 {g : XG} {M : Mem} {y : Int32} : (WL g M).set 38 (ad g 38, .inr (8, [.ref (ad g 39), .int (M 38 1), .int (M 38 2), .int (M 38 3), .int (M 38 4), .int (M 38 5), .int (M 38 6), .int (M 38 7), .int (M 38 8), .ref (ad g 40), .ref (ad g 41), .ref (ad g 42), .ref (ad g 43), .ref (ad g 44), .ref (ad g 45), .ref (ad g 46), .ref (ad g 47), .ref (ad g 48), .int (M 38 18), .ref (ad g 49), .ref (ad g 50), .int (M 38 21), .int (M 38 22), .ref (ad g 51), .int y, .ref (ad g 52), .ref (ad g 53), .ref (ad g 54), .int (M 38 28), .ref (ad g 55), .ref (ad g 56), .ref (ad g 57), .ref (ad g 58), .ref (ad g 59), .int (M 38 34)])) = WL g (mu M 38 24 y) := rfl
theorem os_8_28 {g : XG} {M : Mem} {y : Int32} : (WL g M).set 38 (ad g 38, .inr (8, [.ref (ad g 39), .int (M 38 1), .int (M 38 2), .int (M 38 3), .int (M 38 4), .int (M 38 5), .int (M 38 6), .int (M 38 7), .int (M 38 8), .ref (ad g 40), .ref (ad g 41), .ref (ad g 42), .ref (ad g 43), .ref (ad g 44), .ref (ad g 45), .ref (ad g 46), .ref (ad g 47), .ref (ad g 48), .int (M 38 18), .ref (ad g 49), .ref (ad g 50), .int (M 38 21), .int (M 38 22), .ref (ad g 51), .int (M 38 24), .ref (ad g 52), .ref (ad g 53), .ref (ad g 54), .int y, .ref (ad g 55), .ref (ad g 56), .ref (ad g 57), .ref (ad g 58), .ref (ad g 59), .int (M 38 34)])) = WL g (mu M 38 28 y) := rfl
theorem os_8_34 {g : XG} {M : Mem} {y : Int32} : (WL g M).set 38 (ad g 38, .inr (8, [.ref (ad g 39), .int (M 38 1), .int (M 38 2), .int (M 38 3), .int (M 38 4), .int (M 38 5), .int (M 38 6), .int (M 38 7), .int (M 38 8), .ref (ad g 40), .ref (ad g 41), .ref (ad g 42), .ref (ad g 43), .ref (ad g 44), .ref (ad g 45), .ref (ad g 46), .ref (ad g 47), .ref (ad g 48), .int (M 38 18), .ref (ad g 49), .ref (ad g 50), .int (M 38 21), .int (M 38 22), .ref (ad g 51), .int (M 38 24), .ref (ad g 52), .ref (ad g 53), .ref (ad g 54), .int (M 38 28), .ref (ad g 55), .ref (ad g 56), .ref (ad g 57), .ref (ad g 58), .ref (ad g 59), .int y])) = WL g (mu M 38 34 y) := rfl
theorem kk_I {k n : Nat} (h : isI k n) : (k = 2 ∧ n = 9) ∨ (k = 3 ∧ n = 4) ∨ (k = 4 ∧ n = 8) ∨ (k = 5 ∧ n = 8) ∨ (k = 10 ∧ n = 9) ∨ (k = 11 ∧ n = 4) ∨ (k = 12 ∧ n = 8) ∨ (k = 13 ∧ n = 8) ∨ (k = 15 ∧ n = 7) ∨ (k = 17 ∧ n = 7) ∨ (k = 22 ∧ n = 7) ∨ (k = 25 ∧ n = 7) ∨ (k = 28 ∧ n = 40) ∨ (k = 30 ∧ n = 40) ∨ (k = 32 ∧ n = 40) ∨ (k = 34 ∧ n = 40) ∨ (k = 35 ∧ n = 8) ∨ (k = 36 ∧ n = 8) ∨ (k = 37 ∧ n = 7) ∨ (k = 39 ∧ n = 320) ∨ (k = 40 ∧ n = 9) ∨ (k = 41 ∧ n = 34) ∨ (k = 42 ∧ n = 7) ∨ (k = 43 ∧ n = 7) ∨ (k = 44 ∧ n = 13) ∨ (k = 45 ∧ n = 13) ∨ (k = 46 ∧ n = 13) ∨ (k = 47 ∧ n = 13) ∨ (k = 48 ∧ n = 16) ∨ (k = 49 ∧ n = 13) ∨ (k = 50 ∧ n = 16) ∨ (k = 51 ∧ n = 80) ∨ (k = 52 ∧ n = 7) ∨ (k = 53 ∧ n = 4) ∨ (k = 54 ∧ n = 16) ∨ (k = 55 ∧ n = 8) ∨ (k = 57 ∧ n = 4) ∨ (k = 58 ∧ n = 4) ∨ (k = 59 ∧ n = 160) := by simpa [isI] using h
theorem al_I {g : XG} {M : Mem} {k n : Nat} (h : isI k n) : (WL g M)[k]? = some (ad g k, .inl (cA g 0, n, .inl (M k))) := by rcases kk_I h with ⟨rfl, rfl⟩ | ⟨rfl, rfl⟩ | ⟨rfl, rfl⟩ | ⟨rfl, rfl⟩ | ⟨rfl, rfl⟩ | ⟨rfl, rfl⟩ | ⟨rfl, rfl⟩ | ⟨rfl, rfl⟩ | ⟨rfl, rfl⟩ | ⟨rfl, rfl⟩ | ⟨rfl, rfl⟩ | ⟨rfl, rfl⟩ | ⟨rfl, rfl⟩ | ⟨rfl, rfl⟩ | ⟨rfl, rfl⟩ | ⟨rfl, rfl⟩ | ⟨rfl, rfl⟩ | ⟨rfl, rfl⟩ | ⟨rfl, rfl⟩ | ⟨rfl, rfl⟩ | ⟨rfl, rfl⟩ | ⟨rfl, rfl⟩ | ⟨rfl, rfl⟩ | ⟨rfl, rfl⟩ | ⟨rfl, rfl⟩ | ⟨rfl, rfl⟩ | ⟨rfl, rfl⟩ | ⟨rfl, rfl⟩ | ⟨rfl, rfl⟩ | ⟨rfl, rfl⟩ | ⟨rfl, rfl⟩ | ⟨rfl, rfl⟩ | ⟨rfl, rfl⟩ | ⟨rfl, rfl⟩ | ⟨rfl, rfl⟩ | ⟨rfl, rfl⟩ | ⟨rfl, rfl⟩ | ⟨rfl, rfl⟩ | ⟨rfl, rfl⟩ <;> rfl
theorem as_I {g : XG} {M : Mem} {k n : Nat} (h : isI k n) (f : Nat → Int32) : (WL g M).set k (ad g k, .inl (cA g 0, n, .inl f)) = WL g (fun c => if c = k then f else M c) := by rcases kk_I h with ⟨rfl, rfl⟩ | ⟨rfl, rfl⟩ | ⟨rfl, rfl⟩ | ⟨rfl, rfl⟩ | ⟨rfl, rfl⟩ | ⟨rfl, rfl⟩ | ⟨rfl, rfl⟩ | ⟨rfl, rfl⟩ | ⟨rfl, rfl⟩ | ⟨rfl, rfl⟩ | ⟨rfl, rfl⟩ | ⟨rfl, rfl⟩ | ⟨rfl, rfl⟩ | ⟨rfl, rfl⟩ | ⟨rfl, rfl⟩ | ⟨rfl, rfl⟩ | ⟨rfl, rfl⟩ | ⟨rfl, rfl⟩ | ⟨rfl, rfl⟩ | ⟨rfl, rfl⟩ | ⟨rfl, rfl⟩ | ⟨rfl, rfl⟩ | ⟨rfl, rfl⟩ | ⟨rfl, rfl⟩ | ⟨rfl, rfl⟩ | ⟨rfl, rfl⟩ | ⟨rfl, rfl⟩ | ⟨rfl, rfl⟩ | ⟨rfl, rfl⟩ | ⟨rfl, rfl⟩ | ⟨rfl, rfl⟩ | ⟨rfl, rfl⟩ | ⟨rfl, rfl⟩ | ⟨rfl, rfl⟩ | ⟨rfl, rfl⟩ | ⟨rfl, rfl⟩ | ⟨rfl, rfl⟩ | ⟨rfl, rfl⟩ | ⟨rfl, rfl⟩ <;> rfl
theorem kk_B {k n : Nat} (h : isB k n) : (k = 8 ∧ n = 320) := by simpa [isB] using h
theorem al_B {g : XG} {M : Mem} {k n : Nat} (h : isB k n) : (WL g M)[k]? = some (ad g k, .inl (cA g 1, n, .inl (M k))) := by rcases kk_B h with ⟨rfl, rfl⟩ <;> rfl
theorem as_B {g : XG} {M : Mem} {k n : Nat} (h : isB k n) (f : Nat → Int32) : (WL g M).set k (ad g k, .inl (cA g 1, n, .inl f)) = WL g (fun c => if c = k then f else M c) := by rcases kk_B h with ⟨rfl, rfl⟩ <;> rfl
theorem kk_Z {k n : Nat} (h : isZ k n) : (k = 56 ∧ n = 2) := by simpa [isZ] using h
theorem al_Z {g : XG} {M : Mem} {k n : Nat} (h : isZ k n) : (WL g M)[k]? = some (ad g k, .inl (cA g 2, n, .inl (M k))) := by rcases kk_Z h with ⟨rfl, rfl⟩ <;> rfl
theorem as_Z {g : XG} {M : Mem} {k n : Nat} (h : isZ k n) (f : Nat → Int32) : (WL g M).set k (ad g k, .inl (cA g 2, n, .inl f)) = WL g (fun c => if c = k then f else M c) := by rcases kk_Z h with ⟨rfl, rfl⟩ <;> rfl
end
section
-- words, contexts, contracts over the whole world; a row an instruction
def TB : List Cond := lw_tbl.filter goodWord
theorem tb_of {w : Cond} (h : w ∈ lw_tbl) (hg : goodWord w = true) : w ∈ TB := List.mem_filter.mpr ⟨h, hg⟩
theorem tb_good {w : Cond} (h : w ∈ TB) : goodWord w = true := (List.mem_filter.mp h).2
theorem tb_tbl {w : Cond} (h : w ∈ TB) : w ∈ lw_tbl := (List.mem_filter.mp h).1
-- what nobody writes: static arrays of ints, by their places
def stC (i : Nat) : String := if i < 2 then "ButterChurn$Told" else "ButterChurn$Reading"
def stN (i : Nat) : String := (["FIRST_RULES", "FIRST_DROPS", "NUMBERS", "FIRST_TOLD", "LEAST", "MOST"] : List String).getD i ""
def stV (i : Nat) : List Int32 := ([[100, 130, 10, 10, 20, 4, 10, 20, 80], [64, 16, 4, 0], [2, 4, 1, 2, 2, 1, 1, 2], [0, 2, 6, 7, 9, 11, 12, 13], [1, 0, 0, 0, 0, 0, 10, 0, 1, 0, 0, 3, 1, 0, 0], [50, 100, 99, 99, 99, 99, 400, 400, 99, 50, 99, 6, 99, 100, 100]] : List (List Int32)).getD i []
def stL (i : Nat) : Nat := (stV i).length
def strT (i : Nat) : List Int32 := ([[99, 111, 119], [100, 114, 111, 112, 115], [99, 104, 117, 114, 110], [115, 111, 102, 116], [98, 101, 97, 116], [103, 114, 97, 105, 110], [104, 101, 97, 116], [103, 111, 111, 100]] : List (List Int32)).getD i []
def strX (i : Nat) : String := (["cow", "drops", "churn", "soft", "beat", "grain", "heat", "good"] : List String).getD i ""
def strK (i : Nat) : Nat := ([79, 85, 87, 89, 91, 93, 95, 97] : List Nat).getD i 0
def strLen : List Nat := [3, 5, 5, 4, 4, 5, 4, 4]
def strByt : List (List Int32) := [[99, 111, 119], [100, 114, 111, 112, 115], [99, 104, 117, 114, 110], [115, 111, 102, 116], [98, 101, 97, 116], [103, 114, 97, 105, 110], [104, 101, 97, 116], [103, 111, 111, 100]]
def CO (g : XG) (A : Nat → Prop) (U : State) (H : Heap) : Prop :=
  (∀ i : Nat, i < 6 → va_Z (stC i) (stN i) "[I" (.ref (sa g i)) A U H ∧ va_T .int (sa g i) (stL i) (fun j => .int ((stV i).getD j 0)) A U H) ∧
  vk_S 8 strLen strByt (sk g) (sv g) A U H ∧ (∀ i : Nat, i < 8 → vk_R "ButterChurn$Reading" (strK i) (strX i) (sk g i) U) ∧
  va_Z "java/lang/String" "COMPACT_STRINGS" "Z" (.int 1) A U H ∧
  va_Nw (.methodLinkNest RX3 114 yX7_outside RX7) U
def XA (g : XG) (sz : Nat) : Nat → Prop := fun q => (∃ k : Nat, k < 60 ∧ q = ad g k) ∨ sz ≤ q
theorem CO.narrow {g : XG} {A B : Nat → Prop} {U : State} {H : Heap} (h : CO g A U H) (hAB : ∀ q, B q → A q) : CO g B U H :=
  ⟨fun i hi => ⟨(h.1 i hi).1.narrow hAB, (h.1 i hi).2.narrow hAB⟩, h.2.1.narrow hAB, h.2.2.1, h.2.2.2.1.narrow hAB, h.2.2.2.2⟩
theorem CO.kept {g : XG} {A : Nat → Prop} {U : State} {H H1 : Heap} (h : CO g A U H) (hq : ∀ a : Nat, a < H.size → ¬ A a → H1[a]? = H[a]?) : CO g A U H1 :=
  ⟨fun i hi => ⟨(h.1 i hi).1.kept hq, (h.1 i hi).2.kept hq⟩, h.2.1.kept hq, h.2.2.1, h.2.2.2.1.kept hq, h.2.2.2.2⟩
theorem CO.warm {g : XG} {A : Nat → Prop} {s U : State} {H : Heap} (hW : s.WarmedH U.vm) (h : CO g A s H) : CO g A U H :=
  ⟨fun i hi => ⟨va_Z.moved hW.alike (h.1 i hi).1, va_T.moved hW.alike (h.1 i hi).2⟩, vk_S.moved hW.alike h.2.1, fun i hi => vk_R.warm hW (h.2.2.1 i hi), va_Z.moved hW.alike h.2.2.2.1, va_Nw.warmM hW h.2.2.2.2⟩
theorem CO.same {g : XG} {A : Nat → Prop} {u U : State} {H : Heap} (hv : U.vm = u.vm) (h : CO g A u H) : CO g A U H := by
  have ha : u.vm.Alike U.vm := by rw [hv]; exact Vm.Alike.refl u.vm
  exact ⟨fun i hi => ⟨va_Z.moved ha (h.1 i hi).1, va_T.moved ha (h.1 i hi).2⟩, vk_S.moved ha h.2.1, fun i hi => vk_R.same hv (h.2.2.1 i hi), va_Z.moved ha h.2.2.2.1, va_Nw.same rfl hv.symm h.2.2.2.2⟩
-- methods: name, code, places of locals, answer, frames, words
abbrev XM : Type := MethodName × ByteArray × Nat × Option FieldType × Nat × Nat
abbrev xmN (y : XM) : MethodName := y.1
abbrev xmB (y : XM) : ByteArray := y.2.1
abbrev xmL (y : XM) : Nat := y.2.2.1
abbrev xmR (y : XM) : Option FieldType := y.2.2.2.1
abbrev xmF (y : XM) : Nat := y.2.2.2.2.1
abbrev xmW (y : XM) : Nat := y.2.2.2.2.2
def xcode (y : XM) : Cond := Cond.code (xmN y) (xmB y) (xmL y) (xmR y)
def xws (y : XM) : List Cond := Cond.code (xmN y) (xmB y) (xmL y) (xmR y) :: TB
def xrm (y : XM) : Room := { frames := xmF y, cells := 0, slots := 0, locals := xmW y }
def xPc (g : XG) (M : Mem) (sz : Nat) (As : List Value) : Array Value → State → Prop := va_Pc As (fun U => U.heap.size = sz ∧ va_P g.1 vwCl (WL g M) U.heap ∧ va_K g.1 vwCl (xty g) U ∧ va_D (fun _ => True) (WL g M) ∧ CO g (XA g sz) U U.heap)
def xQc (g : XG) (sz : Nat) (P : Option Value → Mem → Prop) : Array Value → State → Outcome → State → Prop := fun _ st o t => (∃ (r : Option Value) (M' : Mem), o = .returned r ∧ P r M' ∧ va_P g.1 vwCl (WL g M') t.heap ∧ va_D (XA g sz) (WL g M')) ∧ va_F (XA g sz) st t
def Call (l : Launch) (g : XG) (y : XM) (As : List Value) (M : Mem) (P : Option Value → Mem → Prop) : Prop :=
  ∀ sz : Nat, Met l (xmN y) (xws y) (xrm y) (xPc g M sz As) (xQc g sz P) 0 0 (XA g sz)
-- contexts: where a body stands
abbrev XC : Type := Program × Launch × Env × Room × State × MethodId × Array Value × List Frame × Method × Code × Nat × Nat × (State → Prop) × (Nat → Prop)
abbrev x_p (x : XC) : Program := x.1
abbrev x_l (x : XC) : Launch := x.2.1
abbrev x_e (x : XC) : Env := x.2.2.1
abbrev x_R (x : XC) : Room := x.2.2.2.1
abbrev x_s (x : XC) : State := x.2.2.2.2.1
abbrev x_m (x : XC) : MethodId := x.2.2.2.2.2.1
abbrev x_a (x : XC) : Array Value := x.2.2.2.2.2.2.1
abbrev x_b (x : XC) : List Frame := x.2.2.2.2.2.2.2.1
abbrev x_me (x : XC) : Method := x.2.2.2.2.2.2.2.2.1
abbrev x_c (x : XC) : Code := x.2.2.2.2.2.2.2.2.2.1
abbrev x_ce (x : XC) : Nat := x.2.2.2.2.2.2.2.2.2.2.1
abbrev x_sl (x : XC) : Nat := x.2.2.2.2.2.2.2.2.2.2.2.1
abbrev x_Q (x : XC) : State → Prop := x.2.2.2.2.2.2.2.2.2.2.2.2.1
abbrev x_A (x : XC) : Nat → Prop := x.2.2.2.2.2.2.2.2.2.2.2.2.2
def EX (x : XC) (g : XG) (nL : Nat) (M : Mem) (pc : Nat) (L : List (Nat × Value)) (S : List Value) : Prop :=
  ∀ (H : Heap) (locs : List Loc) (ls : Array Slot), va_P g.1 vwCl (WL g M) H → va_D (x_A x) (WL g M) → va_S (x_A x) (x_s x).heap H locs → lv_has ls nL L →
    W (x_p x) (x_l x) (x_e x) (x_R x) (x_s x) (x_m x) (x_a x) (x_b x) (x_me x) (x_c x) H locs (x_ce x) (x_sl x) (x_Q x) (F0 (x_m x) pc ls S)
def XF (x : XC) (g : XG) (y : XM) : Prop :=
  (x_p x).tables.exec = Jvm.exec ∧ (x_c x).code = xmB y ∧ (x_c x).maxLocals = xmL y ∧ (x_s x).vm.findClass (xmN y).cls = some (x_m x).cls ∧ (∀ w ∈ TB, w.before (x_a x) (x_s x) = true) ∧
  va_K g.1 vwCl (xty g) (x_s x) ∧ CO g (x_A x) (x_s x) (x_s x).heap ∧ (∀ q : Nat, (x_s x).heap.size ≤ q → x_A x q) ∧ xmF y ≤ (x_R x).frames ∧ xmW y ≤ (x_R x).locals ∧ x_ce x ≤ (x_R x).cells ∧ x_sl x ≤ (x_R x).slots
def XR (x : XC) (g : XG) (y : XM) (P : Option Value → Mem → Prop) : Prop :=
  x_ce x = 0 ∧ x_sl x = 0 ∧ x_A x = XA g (x_s x).heap.size ∧ x_Q x = MQ (x_b x) (xQc g (x_s x).heap.size P) (x_a x) (x_s x) 0 0 (XA g (x_s x).heap.size) ∧ (x_me x).sig.returnType = xmR y ∧ (x_me x).locks = false
theorem xa_D {g : XG} {M : Mem} {A : Nat → Prop} {sz : Nat} (h : va_D A (WL g M)) : va_D (XA g sz) (WL g M) :=
  h.weaken (fun k q hk _ => Or.inl ⟨k, (wl_ad g M k q hk).2, (wl_ad g M k q hk).1⟩)
theorem wl_some (g : XG) (M : Mem) {k : Nat} (hk : k < 60) : ∃ q, (WL g M)[k]? = some q ∧ q.1 = ad g k := by
  have h : k < (WL g M).length := by rw [wl_len]; exact hk
  exact ⟨_, List.getElem?_eq_getElem h, (wl_ad g M k _ (List.getElem?_eq_getElem h)).1⟩
theorem xa_in {g : XG} {M : Mem} {A : Nat → Prop} {sz sz' : Nat} (h : va_D A (WL g M)) (hA : ∀ q : Nat, sz ≤ q → A q) (hs : sz ≤ sz') : ∀ q, XA g sz' q → A q := by
  intro q hq
  rcases hq with ⟨k, hk, rfl⟩ | hq
  · obtain ⟨q, h1, h2⟩ := wl_some g M hk
    rw [← h2]; exact h.2 k q h1
  · exact hA q (Nat.le_trans hs hq)
theorem xg_in {y z : XM} (hz : xcode z ∈ TB) : GoodIn (xws y) (xws z) := by
  intro w hw
  rcases List.mem_cons.mp hw with rfl | hw
  · exact ⟨List.mem_cons_of_mem _ hz, good_of_word (tb_good hz)⟩
  · exact ⟨List.mem_cons_of_mem _ hw, good_of_word (tb_good hw)⟩
theorem tb_in {z : XM} (hz : xcode z ∈ TB) : GoodIn TB (xws z) := by
  intro w hw
  rcases List.mem_cons.mp hw with rfl | hw
  · exact ⟨hz, good_of_word (tb_good hz)⟩
  · exact ⟨hw, good_of_word (tb_good hw)⟩
theorem xPc_blind (g : XG) (M : Mem) (sz : Nat) (As : List Value) : FrameBlind (xPc g M sz As) := by
  intro a U fr mk h
  obtain ⟨h0, h1, h2, h3, h4, h5⟩ := h
  exact ⟨h0, h1, h2, va_K.moved (u := U) (U := U.calling fr mk a) (Vm.Alike.refl U.vm) h3, h4, CO.same (u := U) (U := U.calling fr mk a) rfl h5⟩
/-- a contract out of its body -/
theorem call_of {l : Launch} {g : XG} {y : XM} {As : List Value} {M : Mem} {P : Option Value → Mem → Prop} (hy : plainName (xmN y).cls = true) (hn : (lg_sl As).length ≤ xmL y)
    (h : ∀ x : XC, x_l x = l → XF x g y → XR x g y P → EX x g (xmL y) M 0 (lv_args 0 As) []) : Call l g y As M P := by
  intro sz
  refine Met.ofW (cc := xmB y) (maxL := xmL y) (ret := xmR y) (ws' := TB) hy rfl ?_
  intro p e s m args below meth c s₁ B hml hv
  obtain ⟨rfl, hsz, hP, hK, hD0, hC⟩ := hv
  subst hsz
  have hts := atoms_spec (ws := xws y) B.pre
  have hown : s.vm.findClass (xmN y).cls = some m.cls := findClass_of_methodNamed B.named
  have hl := lv_entry As (n := xmL y) hn
  rw [lg_entry_eq]
  refine h (p, l, e, xrm y, s, m, As.toArray, below, meth, c, 0, 0, MQ below (xQc g s.heap.size P) As.toArray s 0 0 (XA g s.heap.size), XA g s.heap.size) rfl
    ⟨B.exec, B.bytes, hml, hown, fun w hw => hts w (List.mem_cons_of_mem _ hw), hK, hC, fun q hq => Or.inr hq, Nat.le_refl _, Nat.le_refl _, Nat.zero_le _, Nat.zero_le _⟩
    ⟨rfl, rfl, rfl, rfl, B.returns, B.notSynchronized⟩ s.heap [] _ hP (xa_D hD0) va_S.rf hl
-- locals by lookup
theorem lk_mem : ∀ {L : List (Nat × Value)} {i : Nat} {v : Value}, L.lookup i = some v → (i, v) ∈ L := by
  intro L
  induction L with
  | nil => intro i v h; cases h
  | cons q r ih =>
    intro i v h
    obtain ⟨a, b⟩ := q
    rw [List.lookup_cons] at h
    by_cases hi : i = a
    · subst hi
      simp at h
      subst h
      exact List.mem_cons_self
    · have : (i == a) = false := by simpa using hi
      rw [this] at h
      exact List.mem_cons_of_mem _ (ih h)
theorem lk_at {ls : Array Slot} {nL : Nat} {L : List (Nat × Value)} {i : Nat} {v : Value} (h : lv_has ls nL L) (hk : L.lookup i = some v) : ls[i]? = some (.val v) := h.2.2 (i, v) (lk_mem hk)
def lput (L : List (Nat × Value)) (i : Nat) (v : Value) : List (Nat × Value) := (i, v) :: L.filter (fun q => !(q.1 == i) && !(q.1 + 1 == i && q.2.category == 2))
def lput2 (L : List (Nat × Value)) (i : Nat) (v : Value) : List (Nat × Value) := (i, v) :: L.filter (fun q => !(q.1 == i) && (!(q.1 == i + 1) && !(q.1 + 1 == i && q.2.category == 2)))
def lall (L : List (Nat × Value)) : List (Nat × Value) → Prop
  | [] => True
  | (i, v) :: r => L.lookup i = some v ∧ lall L r
theorem lall_sub {L : List (Nat × Value)} {ls : Array Slot} {nL : Nat} (h : lv_has ls nL L) : ∀ L' : List (Nat × Value), lall L L' → lv_has ls nL L' := by
  intro L' hL
  refine ⟨h.1, h.2.1, ?_⟩
  induction L' with
  | nil => intro q hq; cases hq
  | cons a r ih =>
    intro q hq
    obtain ⟨i, v⟩ := a
    rcases List.mem_cons.mp hq with rfl | hq
    · exact lk_at h hL.1
    · exact ih hL.2 q hq
end
section
theorem ex_iconst {x : XC} {g : XG} {y0 : XM} {M : Mem} {pc : Nat} {L : List (Nat × Value)} {S : List Value} {n : Int} {v : Int32} (F : XF x g y0) (d : decode (xmB y0) pc = .ok (.iconst n, 1)) (hv : Int32.ofInt n = v)
    (k : EX x g (xmL y0) M (pc + 1) L (.int v :: S)) : EX x g (xmL y0) M pc L S :=
  fun H locs ls hP hD hS hl => lv_iconst F.1 F.2.1 d hv (k H locs ls hP hD hS hl)
theorem ex_bipush {x : XC} {g : XG} {y0 : XM} {M : Mem} {pc : Nat} {L : List (Nat × Value)} {S : List Value} {n : Int} {v : Int32} (F : XF x g y0) (d : decode (xmB y0) pc = .ok (.bipush n, 2)) (hv : (Int8.ofInt n).toInt32 = v)
    (k : EX x g (xmL y0) M (pc + 2) L (.int v :: S)) : EX x g (xmL y0) M pc L S :=
  fun H locs ls hP hD hS hl => lv_bipush F.1 F.2.1 d hv (k H locs ls hP hD hS hl)
theorem ex_sipush {x : XC} {g : XG} {y0 : XM} {M : Mem} {pc : Nat} {L : List (Nat × Value)} {S : List Value} {n : Int} {v : Int32} (F : XF x g y0) (d : decode (xmB y0) pc = .ok (.sipush n, 3)) (hv : (Int16.ofInt n).toInt32 = v)
    (k : EX x g (xmL y0) M (pc + 3) L (.int v :: S)) : EX x g (xmL y0) M pc L S :=
  fun H locs ls hP hD hS hl => lv_sipush F.1 F.2.1 d hv (k H locs ls hP hD hS hl)
theorem ex_lconst {x : XC} {g : XG} {y0 : XM} {M : Mem} {pc : Nat} {L : List (Nat × Value)} {S : List Value} {n : Fin 2} {v : Int64} (F : XF x g y0) (d : decode (xmB y0) pc = .ok (.lconst n, 1)) (hv : Int64.ofNat (n : Nat) = v)
    (k : EX x g (xmL y0) M (pc + 1) L (.long v :: S)) : EX x g (xmL y0) M pc L S :=
  fun H locs ls hP hD hS hl => lv_lconst F.1 F.2.1 d hv (k H locs ls hP hD hS hl)
theorem ex_iload_n {x : XC} {g : XG} {y0 : XM} {M : Mem} {pc : Nat} {L : List (Nat × Value)} {S : List Value} {n : Fin 4} {i : Nat} {v : Int32} (F : XF x g y0) (d : decode (xmB y0) pc = .ok (.iload_n n, 1)) (hi : (n : Nat) = i) (hk : L.lookup i = some (.int v))
    (k : EX x g (xmL y0) M (pc + 1) L (.int v :: S)) : EX x g (xmL y0) M pc L S :=
  fun H locs ls hP hD hS hl => lv_iload_n F.1 F.2.1 d hi (lk_at hl hk) (k H locs ls hP hD hS hl)
theorem ex_iload {x : XC} {g : XG} {y0 : XM} {M : Mem} {pc : Nat} {L : List (Nat × Value)} {S : List Value} {i : Nat} {v : Int32} (F : XF x g y0) (d : decode (xmB y0) pc = .ok (.iload i, 2)) (hk : L.lookup i = some (.int v))
    (k : EX x g (xmL y0) M (pc + 2) L (.int v :: S)) : EX x g (xmL y0) M pc L S :=
  fun H locs ls hP hD hS hl => lv_iload F.1 F.2.1 d (lk_at hl hk) (k H locs ls hP hD hS hl)
theorem ex_istore_n {x : XC} {g : XG} {y0 : XM} {M : Mem} {pc : Nat} {L : List (Nat × Value)} {S : List Value} {n : Fin 4} {i : Nat} {v : Int32} (F : XF x g y0) (d : decode (xmB y0) pc = .ok (.istore_n n, 1)) (hi : (n : Nat) = i) (hn : i < xmL y0)
    (k : EX x g (xmL y0) M (pc + 1) (lput L i (.int v)) S) : EX x g (xmL y0) M pc L (.int v :: S) :=
  fun H locs ls hP hD hS hl => lv_istore_n F.1 F.2.1 d hi hl hn rfl (fun ls hl => k H locs ls hP hD hS hl)
theorem ex_istore {x : XC} {g : XG} {y0 : XM} {M : Mem} {pc : Nat} {L : List (Nat × Value)} {S : List Value} {i : Nat} {v : Int32} (F : XF x g y0) (d : decode (xmB y0) pc = .ok (.istore i, 2)) (hn : i < xmL y0)
    (k : EX x g (xmL y0) M (pc + 2) (lput L i (.int v)) S) : EX x g (xmL y0) M pc L (.int v :: S) :=
  fun H locs ls hP hD hS hl => lv_istore F.1 F.2.1 d hl hn rfl (fun ls hl => k H locs ls hP hD hS hl)
theorem ex_lload_n {x : XC} {g : XG} {y0 : XM} {M : Mem} {pc : Nat} {L : List (Nat × Value)} {S : List Value} {n : Fin 4} {i : Nat} {v : Int64} (F : XF x g y0) (d : decode (xmB y0) pc = .ok (.lload_n n, 1)) (hi : (n : Nat) = i) (hk : L.lookup i = some (.long v))
    (k : EX x g (xmL y0) M (pc + 1) L (.long v :: S)) : EX x g (xmL y0) M pc L S :=
  fun H locs ls hP hD hS hl => lv_lload_n F.1 F.2.1 d hi (lk_at hl hk) (k H locs ls hP hD hS hl)
theorem ex_lload {x : XC} {g : XG} {y0 : XM} {M : Mem} {pc : Nat} {L : List (Nat × Value)} {S : List Value} {i : Nat} {v : Int64} (F : XF x g y0) (d : decode (xmB y0) pc = .ok (.lload i, 2)) (hk : L.lookup i = some (.long v))
    (k : EX x g (xmL y0) M (pc + 2) L (.long v :: S)) : EX x g (xmL y0) M pc L S :=
  fun H locs ls hP hD hS hl => lv_lload F.1 F.2.1 d (lk_at hl hk) (k H locs ls hP hD hS hl)
theorem ex_lstore_n {x : XC} {g : XG} {y0 : XM} {M : Mem} {pc : Nat} {L : List (Nat × Value)} {S : List Value} {n : Fin 4} {i : Nat} {v : Int64} (F : XF x g y0) (d : decode (xmB y0) pc = .ok (.lstore_n n, 1)) (hi : (n : Nat) = i) (hn : i + 1 < xmL y0)
    (k : EX x g (xmL y0) M (pc + 1) (lput2 L i (.long v)) S) : EX x g (xmL y0) M pc L (.long v :: S) :=
  fun H locs ls hP hD hS hl => lv_lstore_n F.1 F.2.1 d hi hl hn rfl (fun ls hl => k H locs ls hP hD hS hl)
theorem ex_lstore {x : XC} {g : XG} {y0 : XM} {M : Mem} {pc : Nat} {L : List (Nat × Value)} {S : List Value} {i : Nat} {v : Int64} (F : XF x g y0) (d : decode (xmB y0) pc = .ok (.lstore i, 2)) (hn : i + 1 < xmL y0)
    (k : EX x g (xmL y0) M (pc + 2) (lput2 L i (.long v)) S) : EX x g (xmL y0) M pc L (.long v :: S) :=
  fun H locs ls hP hD hS hl => lv_lstore F.1 F.2.1 d hl hn rfl (fun ls hl => k H locs ls hP hD hS hl)
theorem ex_aload_n {x : XC} {g : XG} {y0 : XM} {M : Mem} {pc : Nat} {L : List (Nat × Value)} {S : List Value} {n : Fin 4} {i : Nat} {v : Nat} (F : XF x g y0) (d : decode (xmB y0) pc = .ok (.aload_n n, 1)) (hi : (n : Nat) = i) (hk : L.lookup i = some (.ref v))
    (k : EX x g (xmL y0) M (pc + 1) L (.ref v :: S)) : EX x g (xmL y0) M pc L S :=
  fun H locs ls hP hD hS hl => lv_aload_n F.1 F.2.1 d hi (lk_at hl hk) (k H locs ls hP hD hS hl)
theorem ex_aload {x : XC} {g : XG} {y0 : XM} {M : Mem} {pc : Nat} {L : List (Nat × Value)} {S : List Value} {i : Nat} {v : Nat} (F : XF x g y0) (d : decode (xmB y0) pc = .ok (.aload i, 2)) (hk : L.lookup i = some (.ref v))
    (k : EX x g (xmL y0) M (pc + 2) L (.ref v :: S)) : EX x g (xmL y0) M pc L S :=
  fun H locs ls hP hD hS hl => lv_aload F.1 F.2.1 d (lk_at hl hk) (k H locs ls hP hD hS hl)
theorem ex_astore_n {x : XC} {g : XG} {y0 : XM} {M : Mem} {pc : Nat} {L : List (Nat × Value)} {S : List Value} {n : Fin 4} {i : Nat} {v : Nat} (F : XF x g y0) (d : decode (xmB y0) pc = .ok (.astore_n n, 1)) (hi : (n : Nat) = i) (hn : i < xmL y0)
    (k : EX x g (xmL y0) M (pc + 1) (lput L i (.ref v)) S) : EX x g (xmL y0) M pc L (.ref v :: S) :=
  fun H locs ls hP hD hS hl => lv_astore_n F.1 F.2.1 d hi hl hn rfl (fun ls hl => k H locs ls hP hD hS hl)
theorem ex_astore {x : XC} {g : XG} {y0 : XM} {M : Mem} {pc : Nat} {L : List (Nat × Value)} {S : List Value} {i : Nat} {v : Nat} (F : XF x g y0) (d : decode (xmB y0) pc = .ok (.astore i, 2)) (hn : i < xmL y0)
    (k : EX x g (xmL y0) M (pc + 2) (lput L i (.ref v)) S) : EX x g (xmL y0) M pc L (.ref v :: S) :=
  fun H locs ls hP hD hS hl => lv_astore F.1 F.2.1 d hl hn rfl (fun ls hl => k H locs ls hP hD hS hl)
theorem lk_pos {L : List (Nat × Value)} {i : Nat} {v : Value} (h : L.lookup i = some v) : ∃ k : Nat, L[k]? = some (i, v) := List.getElem?_of_mem (lk_mem h)
theorem ex_iinc {x : XC} {g : XG} {y0 : XM} {M : Mem} {pc : Nat} {L : List (Nat × Value)} {S : List Value} {i : Nat} {n : Int} {v w : Int32} (F : XF x g y0) (d : decode (xmB y0) pc = .ok (.iinc i n, 3)) (hk : L.lookup i = some (.int v)) (hv : v + Int32.ofInt n = w) (hn : i < xmL y0)
    (k : EX x g (xmL y0) M (pc + 3) (lput L i (.int w)) S) : EX x g (xmL y0) M pc L S := fun H locs ls hP hD hS hl => by
  obtain ⟨q, hq⟩ := lk_pos hk
  exact lv_iinc F.1 F.2.1 d hl hq hv hn rfl (fun ls hl => k H locs ls hP hD hS hl)
theorem ex_iadd {x : XC} {g : XG} {y0 : XM} {M : Mem} {pc : Nat} {L : List (Nat × Value)} {S : List Value} {a b : Int32} (F : XF x g y0) (d : decode (xmB y0) pc = .ok (.iadd, 1)) 
    (k : EX x g (xmL y0) M (pc + 1) L (.int (a + b) :: S)) : EX x g (xmL y0) M pc L (.int b :: .int a :: S) :=
  fun H locs ls hP hD hS hl => lv_iadd F.1 F.2.1 d  (k H locs ls hP hD hS hl)
theorem ex_isub {x : XC} {g : XG} {y0 : XM} {M : Mem} {pc : Nat} {L : List (Nat × Value)} {S : List Value} {a b : Int32} (F : XF x g y0) (d : decode (xmB y0) pc = .ok (.isub, 1)) 
    (k : EX x g (xmL y0) M (pc + 1) L (.int (a - b) :: S)) : EX x g (xmL y0) M pc L (.int b :: .int a :: S) :=
  fun H locs ls hP hD hS hl => lv_isub F.1 F.2.1 d  (k H locs ls hP hD hS hl)
theorem ex_imul {x : XC} {g : XG} {y0 : XM} {M : Mem} {pc : Nat} {L : List (Nat × Value)} {S : List Value} {a b : Int32} (F : XF x g y0) (d : decode (xmB y0) pc = .ok (.imul, 1)) 
    (k : EX x g (xmL y0) M (pc + 1) L (.int (a * b) :: S)) : EX x g (xmL y0) M pc L (.int b :: .int a :: S) :=
  fun H locs ls hP hD hS hl => lv_imul F.1 F.2.1 d  (k H locs ls hP hD hS hl)
theorem ex_iand {x : XC} {g : XG} {y0 : XM} {M : Mem} {pc : Nat} {L : List (Nat × Value)} {S : List Value} {a b : Int32} (F : XF x g y0) (d : decode (xmB y0) pc = .ok (.iand, 1)) 
    (k : EX x g (xmL y0) M (pc + 1) L (.int (a &&& b) :: S)) : EX x g (xmL y0) M pc L (.int b :: .int a :: S) :=
  fun H locs ls hP hD hS hl => lv_iand F.1 F.2.1 d  (k H locs ls hP hD hS hl)
theorem ex_ior {x : XC} {g : XG} {y0 : XM} {M : Mem} {pc : Nat} {L : List (Nat × Value)} {S : List Value} {a b : Int32} (F : XF x g y0) (d : decode (xmB y0) pc = .ok (.ior, 1)) 
    (k : EX x g (xmL y0) M (pc + 1) L (.int (a ||| b) :: S)) : EX x g (xmL y0) M pc L (.int b :: .int a :: S) :=
  fun H locs ls hP hD hS hl => lv_ior F.1 F.2.1 d  (k H locs ls hP hD hS hl)
theorem ex_ixor {x : XC} {g : XG} {y0 : XM} {M : Mem} {pc : Nat} {L : List (Nat × Value)} {S : List Value} {a b : Int32} (F : XF x g y0) (d : decode (xmB y0) pc = .ok (.ixor, 1)) 
    (k : EX x g (xmL y0) M (pc + 1) L (.int (a ^^^ b) :: S)) : EX x g (xmL y0) M pc L (.int b :: .int a :: S) :=
  fun H locs ls hP hD hS hl => lv_ixor F.1 F.2.1 d  (k H locs ls hP hD hS hl)
theorem ex_idiv {x : XC} {g : XG} {y0 : XM} {M : Mem} {pc : Nat} {L : List (Nat × Value)} {S : List Value} {a b : Int32} (F : XF x g y0) (d : decode (xmB y0) pc = .ok (.idiv, 1)) (hb : ¬ b = 0)
    (k : EX x g (xmL y0) M (pc + 1) L (.int (a / b) :: S)) : EX x g (xmL y0) M pc L (.int b :: .int a :: S) :=
  fun H locs ls hP hD hS hl => lv_idiv F.1 F.2.1 d hb (k H locs ls hP hD hS hl)
theorem ex_irem {x : XC} {g : XG} {y0 : XM} {M : Mem} {pc : Nat} {L : List (Nat × Value)} {S : List Value} {a b : Int32} (F : XF x g y0) (d : decode (xmB y0) pc = .ok (.irem, 1)) (hb : ¬ b = 0)
    (k : EX x g (xmL y0) M (pc + 1) L (.int (a - a / b * b) :: S)) : EX x g (xmL y0) M pc L (.int b :: .int a :: S) :=
  fun H locs ls hP hD hS hl => lv_irem F.1 F.2.1 d hb (k H locs ls hP hD hS hl)
theorem ex_ineg {x : XC} {g : XG} {y0 : XM} {M : Mem} {pc : Nat} {L : List (Nat × Value)} {S : List Value} {a : Int32} (F : XF x g y0) (d : decode (xmB y0) pc = .ok (.ineg, 1)) 
    (k : EX x g (xmL y0) M (pc + 1) L (.int (-a) :: S)) : EX x g (xmL y0) M pc L (.int a :: S) :=
  fun H locs ls hP hD hS hl => lv_ineg F.1 F.2.1 d  (k H locs ls hP hD hS hl)
theorem ex_ladd {x : XC} {g : XG} {y0 : XM} {M : Mem} {pc : Nat} {L : List (Nat × Value)} {S : List Value} {a b : Int64} (F : XF x g y0) (d : decode (xmB y0) pc = .ok (.ladd, 1)) 
    (k : EX x g (xmL y0) M (pc + 1) L (.long (a + b) :: S)) : EX x g (xmL y0) M pc L (.long b :: .long a :: S) :=
  fun H locs ls hP hD hS hl => lv_ladd F.1 F.2.1 d  (k H locs ls hP hD hS hl)
theorem ex_lsub {x : XC} {g : XG} {y0 : XM} {M : Mem} {pc : Nat} {L : List (Nat × Value)} {S : List Value} {a b : Int64} (F : XF x g y0) (d : decode (xmB y0) pc = .ok (.lsub, 1)) 
    (k : EX x g (xmL y0) M (pc + 1) L (.long (a - b) :: S)) : EX x g (xmL y0) M pc L (.long b :: .long a :: S) :=
  fun H locs ls hP hD hS hl => lv_lsub F.1 F.2.1 d  (k H locs ls hP hD hS hl)
theorem ex_lmul {x : XC} {g : XG} {y0 : XM} {M : Mem} {pc : Nat} {L : List (Nat × Value)} {S : List Value} {a b : Int64} (F : XF x g y0) (d : decode (xmB y0) pc = .ok (.lmul, 1)) 
    (k : EX x g (xmL y0) M (pc + 1) L (.long (a * b) :: S)) : EX x g (xmL y0) M pc L (.long b :: .long a :: S) :=
  fun H locs ls hP hD hS hl => lv_lmul F.1 F.2.1 d  (k H locs ls hP hD hS hl)
theorem ex_land {x : XC} {g : XG} {y0 : XM} {M : Mem} {pc : Nat} {L : List (Nat × Value)} {S : List Value} {a b : Int64} (F : XF x g y0) (d : decode (xmB y0) pc = .ok (.land, 1)) 
    (k : EX x g (xmL y0) M (pc + 1) L (.long (a &&& b) :: S)) : EX x g (xmL y0) M pc L (.long b :: .long a :: S) :=
  fun H locs ls hP hD hS hl => lv_land F.1 F.2.1 d  (k H locs ls hP hD hS hl)
theorem ex_lor {x : XC} {g : XG} {y0 : XM} {M : Mem} {pc : Nat} {L : List (Nat × Value)} {S : List Value} {a b : Int64} (F : XF x g y0) (d : decode (xmB y0) pc = .ok (.lor, 1)) 
    (k : EX x g (xmL y0) M (pc + 1) L (.long (a ||| b) :: S)) : EX x g (xmL y0) M pc L (.long b :: .long a :: S) :=
  fun H locs ls hP hD hS hl => lv_lor F.1 F.2.1 d  (k H locs ls hP hD hS hl)
theorem ex_ldiv {x : XC} {g : XG} {y0 : XM} {M : Mem} {pc : Nat} {L : List (Nat × Value)} {S : List Value} {a b : Int64} (F : XF x g y0) (d : decode (xmB y0) pc = .ok (.ldiv, 1)) (hb : ¬ b = 0)
    (k : EX x g (xmL y0) M (pc + 1) L (.long (a / b) :: S)) : EX x g (xmL y0) M pc L (.long b :: .long a :: S) :=
  fun H locs ls hP hD hS hl => lv_ldiv F.1 F.2.1 d hb (k H locs ls hP hD hS hl)
theorem ex_lrem {x : XC} {g : XG} {y0 : XM} {M : Mem} {pc : Nat} {L : List (Nat × Value)} {S : List Value} {a b : Int64} (F : XF x g y0) (d : decode (xmB y0) pc = .ok (.lrem, 1)) (hb : ¬ b = 0)
    (k : EX x g (xmL y0) M (pc + 1) L (.long (a - a / b * b) :: S)) : EX x g (xmL y0) M pc L (.long b :: .long a :: S) :=
  fun H locs ls hP hD hS hl => lv_lrem F.1 F.2.1 d hb (k H locs ls hP hD hS hl)
theorem ex_ishl {x : XC} {g : XG} {y0 : XM} {M : Mem} {pc : Nat} {L : List (Nat × Value)} {S : List Value} {a b : Int32} (F : XF x g y0) (d : decode (xmB y0) pc = .ok (.ishl, 1)) 
    (k : EX x g (xmL y0) M (pc + 1) L (.int (a <<< (b &&& 31)) :: S)) : EX x g (xmL y0) M pc L (.int b :: .int a :: S) :=
  fun H locs ls hP hD hS hl => lv_ishl F.1 F.2.1 d  (k H locs ls hP hD hS hl)
theorem ex_ishr {x : XC} {g : XG} {y0 : XM} {M : Mem} {pc : Nat} {L : List (Nat × Value)} {S : List Value} {a b : Int32} (F : XF x g y0) (d : decode (xmB y0) pc = .ok (.ishr, 1)) 
    (k : EX x g (xmL y0) M (pc + 1) L (.int (a >>> (b &&& 31)) :: S)) : EX x g (xmL y0) M pc L (.int b :: .int a :: S) :=
  fun H locs ls hP hD hS hl => lv_ishr F.1 F.2.1 d  (k H locs ls hP hD hS hl)
theorem ex_iushr {x : XC} {g : XG} {y0 : XM} {M : Mem} {pc : Nat} {L : List (Nat × Value)} {S : List Value} {a b : Int32} (F : XF x g y0) (d : decode (xmB y0) pc = .ok (.iushr, 1)) 
    (k : EX x g (xmL y0) M (pc + 1) L (.int ((a.toUInt32 >>> (b.toUInt32 &&& Int32.toUInt32 31)).toInt32) :: S)) : EX x g (xmL y0) M pc L (.int b :: .int a :: S) :=
  fun H locs ls hP hD hS hl => lv_iushr F.1 F.2.1 d rfl (k H locs ls hP hD hS hl)
theorem ex_lshl {x : XC} {g : XG} {y0 : XM} {M : Mem} {pc : Nat} {L : List (Nat × Value)} {S : List Value} {a : Int64} {b : Int32} (F : XF x g y0) (d : decode (xmB y0) pc = .ok (.lshl, 1)) 
    (k : EX x g (xmL y0) M (pc + 1) L (.long (a <<< (b.toInt64 &&& 63)) :: S)) : EX x g (xmL y0) M pc L (.int b :: .long a :: S) :=
  fun H locs ls hP hD hS hl => lv_lshl F.1 F.2.1 d rfl (k H locs ls hP hD hS hl)
theorem ex_lshr {x : XC} {g : XG} {y0 : XM} {M : Mem} {pc : Nat} {L : List (Nat × Value)} {S : List Value} {a : Int64} {b : Int32} (F : XF x g y0) (d : decode (xmB y0) pc = .ok (.lshr, 1)) 
    (k : EX x g (xmL y0) M (pc + 1) L (.long (a >>> (b.toInt64 &&& 63)) :: S)) : EX x g (xmL y0) M pc L (.int b :: .long a :: S) :=
  fun H locs ls hP hD hS hl => lv_lshr F.1 F.2.1 d rfl (k H locs ls hP hD hS hl)
theorem ex_i2l {x : XC} {g : XG} {y0 : XM} {M : Mem} {pc : Nat} {L : List (Nat × Value)} {S : List Value} {a : Int32} (F : XF x g y0) (d : decode (xmB y0) pc = .ok (.i2l, 1)) 
    (k : EX x g (xmL y0) M (pc + 1) L (.long a.toInt64 :: S)) : EX x g (xmL y0) M pc L (.int a :: S) :=
  fun H locs ls hP hD hS hl => lv_i2l F.1 F.2.1 d rfl (k H locs ls hP hD hS hl)
theorem ex_l2i {x : XC} {g : XG} {y0 : XM} {M : Mem} {pc : Nat} {L : List (Nat × Value)} {S : List Value} {a : Int64} (F : XF x g y0) (d : decode (xmB y0) pc = .ok (.l2i, 1)) 
    (k : EX x g (xmL y0) M (pc + 1) L (.int a.toInt32 :: S)) : EX x g (xmL y0) M pc L (.long a :: S) :=
  fun H locs ls hP hD hS hl => lv_l2i F.1 F.2.1 d rfl (k H locs ls hP hD hS hl)
theorem ex_i2b {x : XC} {g : XG} {y0 : XM} {M : Mem} {pc : Nat} {L : List (Nat × Value)} {S : List Value} {a : Int32} (F : XF x g y0) (d : decode (xmB y0) pc = .ok (.i2b, 1)) 
    (k : EX x g (xmL y0) M (pc + 1) L (.int a.toInt8.toInt32 :: S)) : EX x g (xmL y0) M pc L (.int a :: S) :=
  fun H locs ls hP hD hS hl => lv_i2b F.1 F.2.1 d rfl (k H locs ls hP hD hS hl)
theorem ex_i2s {x : XC} {g : XG} {y0 : XM} {M : Mem} {pc : Nat} {L : List (Nat × Value)} {S : List Value} {a : Int32} (F : XF x g y0) (d : decode (xmB y0) pc = .ok (.i2s, 1)) 
    (k : EX x g (xmL y0) M (pc + 1) L (.int a.toInt16.toInt32 :: S)) : EX x g (xmL y0) M pc L (.int a :: S) :=
  fun H locs ls hP hD hS hl => lv_i2s F.1 F.2.1 d rfl (k H locs ls hP hD hS hl)
theorem ex_i2c {x : XC} {g : XG} {y0 : XM} {M : Mem} {pc : Nat} {L : List (Nat × Value)} {S : List Value} {a : Int32} (F : XF x g y0) (d : decode (xmB y0) pc = .ok (.i2c, 1)) 
    (k : EX x g (xmL y0) M (pc + 1) L (.int (a.toUInt32 % 65536).toInt32 :: S)) : EX x g (xmL y0) M pc L (.int a :: S) :=
  fun H locs ls hP hD hS hl => lv_i2c F.1 F.2.1 d rfl (k H locs ls hP hD hS hl)
theorem ex_lcmp {x : XC} {g : XG} {y0 : XM} {M : Mem} {pc : Nat} {L : List (Nat × Value)} {S : List Value} {a b : Int64} (F : XF x g y0) (d : decode (xmB y0) pc = .ok (.lcmp, 1)) 
    (k : EX x g (xmL y0) M (pc + 1) L (.int (lg_cmp a b) :: S)) : EX x g (xmL y0) M pc L (.long b :: .long a :: S) :=
  fun H locs ls hP hD hS hl => W.lcmp F.1 F.2.1 d  (k H locs ls hP hD hS hl)
theorem ex_dup {x : XC} {g : XG} {y0 : XM} {M : Mem} {pc : Nat} {L : List (Nat × Value)} {S : List Value} {v : Value} (F : XF x g y0) (d : decode (xmB y0) pc = .ok (.dup, 1)) (hv : v.category = 1)
    (k : EX x g (xmL y0) M (pc + 1) L (v :: v :: S)) : EX x g (xmL y0) M pc L (v :: S) :=
  fun H locs ls hP hD hS hl => lv_dup F.1 F.2.1 d hv (k H locs ls hP hD hS hl)
theorem ex_pop {x : XC} {g : XG} {y0 : XM} {M : Mem} {pc : Nat} {L : List (Nat × Value)} {S : List Value} {v : Value} (F : XF x g y0) (d : decode (xmB y0) pc = .ok (.pop, 1)) (hv : v.category = 1)
    (k : EX x g (xmL y0) M (pc + 1) L S) : EX x g (xmL y0) M pc L (v :: S) :=
  fun H locs ls hP hD hS hl => lv_pop F.1 F.2.1 d hv (k H locs ls hP hD hS hl)
theorem ex_dup2 {x : XC} {g : XG} {y0 : XM} {M : Mem} {pc : Nat} {L : List (Nat × Value)} {S : List Value} {v w : Value} (F : XF x g y0) (d : decode (xmB y0) pc = .ok (.dup2, 1)) (hv : v.category = 1) (hw : w.category = 1)
    (k : EX x g (xmL y0) M (pc + 1) L (v :: w :: v :: w :: S)) : EX x g (xmL y0) M pc L (v :: w :: S) :=
  fun H locs ls hP hD hS hl => lv_dup2_11 F.1 F.2.1 d hv hw (k H locs ls hP hD hS hl)
theorem ex_null {x : XC} {g : XG} {y0 : XM} {M : Mem} {pc : Nat} {L : List (Nat × Value)} {S : List Value}  (F : XF x g y0) (d : decode (xmB y0) pc = .ok (.aconst_null, 1)) 
    (k : EX x g (xmL y0) M (pc + 1) L (.null :: S)) : EX x g (xmL y0) M pc L S :=
  fun H locs ls hP hD hS hl => lv_null F.1 F.2.1 d  (k H locs ls hP hD hS hl)
theorem ex_icmp_eq {x : XC} {g : XG} {y0 : XM} {M : Mem} {pc : Nat} {L : List (Nat × Value)} {S : List Value} {a b : Int32} {off : Int} {t : Nat} (F : XF x g y0) (d : decode (xmB y0) pc = .ok (.if_icmp .eq off, 3)) (ht : (pc : Int) + off = (t : Int))
    (kt : a = b → EX x g (xmL y0) M t L S) (kf : ¬ a = b → EX x g (xmL y0) M (pc + 3) L S) : EX x g (xmL y0) M pc L (.int b :: .int a :: S) :=
  fun H locs ls hP hD hS hl => lv_icmp_eq F.1 F.2.1 d ht (fun c => kt c H locs ls hP hD hS hl) (fun c => kf c H locs ls hP hD hS hl)
theorem ex_if_eq {x : XC} {g : XG} {y0 : XM} {M : Mem} {pc : Nat} {L : List (Nat × Value)} {S : List Value} {a : Int32} {off : Int} {t : Nat} (F : XF x g y0) (d : decode (xmB y0) pc = .ok (.ifCond .eq off, 3)) (ht : (pc : Int) + off = (t : Int))
    (kt : a = 0 → EX x g (xmL y0) M t L S) (kf : ¬ a = 0 → EX x g (xmL y0) M (pc + 3) L S) : EX x g (xmL y0) M pc L (.int a :: S) :=
  fun H locs ls hP hD hS hl => lv_if_eq F.1 F.2.1 d ht (fun c => kt c H locs ls hP hD hS hl) (fun c => kf c H locs ls hP hD hS hl)
theorem ex_icmp_ne {x : XC} {g : XG} {y0 : XM} {M : Mem} {pc : Nat} {L : List (Nat × Value)} {S : List Value} {a b : Int32} {off : Int} {t : Nat} (F : XF x g y0) (d : decode (xmB y0) pc = .ok (.if_icmp .ne off, 3)) (ht : (pc : Int) + off = (t : Int))
    (kt : ¬ a = b → EX x g (xmL y0) M t L S) (kf : a = b → EX x g (xmL y0) M (pc + 3) L S) : EX x g (xmL y0) M pc L (.int b :: .int a :: S) :=
  fun H locs ls hP hD hS hl => lv_icmp_ne F.1 F.2.1 d ht (fun c => kt c H locs ls hP hD hS hl) (fun c => kf c H locs ls hP hD hS hl)
theorem ex_if_ne {x : XC} {g : XG} {y0 : XM} {M : Mem} {pc : Nat} {L : List (Nat × Value)} {S : List Value} {a : Int32} {off : Int} {t : Nat} (F : XF x g y0) (d : decode (xmB y0) pc = .ok (.ifCond .ne off, 3)) (ht : (pc : Int) + off = (t : Int))
    (kt : ¬ a = 0 → EX x g (xmL y0) M t L S) (kf : a = 0 → EX x g (xmL y0) M (pc + 3) L S) : EX x g (xmL y0) M pc L (.int a :: S) :=
  fun H locs ls hP hD hS hl => lv_if_ne F.1 F.2.1 d ht (fun c => kt c H locs ls hP hD hS hl) (fun c => kf c H locs ls hP hD hS hl)
theorem ex_icmp_lt {x : XC} {g : XG} {y0 : XM} {M : Mem} {pc : Nat} {L : List (Nat × Value)} {S : List Value} {a b : Int32} {off : Int} {t : Nat} (F : XF x g y0) (d : decode (xmB y0) pc = .ok (.if_icmp .lt off, 3)) (ht : (pc : Int) + off = (t : Int))
    (kt : a < b → EX x g (xmL y0) M t L S) (kf : ¬ a < b → EX x g (xmL y0) M (pc + 3) L S) : EX x g (xmL y0) M pc L (.int b :: .int a :: S) :=
  fun H locs ls hP hD hS hl => lv_icmp_lt F.1 F.2.1 d ht (fun c => kt c H locs ls hP hD hS hl) (fun c => kf c H locs ls hP hD hS hl)
theorem ex_if_lt {x : XC} {g : XG} {y0 : XM} {M : Mem} {pc : Nat} {L : List (Nat × Value)} {S : List Value} {a : Int32} {off : Int} {t : Nat} (F : XF x g y0) (d : decode (xmB y0) pc = .ok (.ifCond .lt off, 3)) (ht : (pc : Int) + off = (t : Int))
    (kt : a < 0 → EX x g (xmL y0) M t L S) (kf : ¬ a < 0 → EX x g (xmL y0) M (pc + 3) L S) : EX x g (xmL y0) M pc L (.int a :: S) :=
  fun H locs ls hP hD hS hl => lv_if_lt F.1 F.2.1 d ht (fun c => kt c H locs ls hP hD hS hl) (fun c => kf c H locs ls hP hD hS hl)
theorem ex_icmp_ge {x : XC} {g : XG} {y0 : XM} {M : Mem} {pc : Nat} {L : List (Nat × Value)} {S : List Value} {a b : Int32} {off : Int} {t : Nat} (F : XF x g y0) (d : decode (xmB y0) pc = .ok (.if_icmp .ge off, 3)) (ht : (pc : Int) + off = (t : Int))
    (kt : b ≤ a → EX x g (xmL y0) M t L S) (kf : ¬ b ≤ a → EX x g (xmL y0) M (pc + 3) L S) : EX x g (xmL y0) M pc L (.int b :: .int a :: S) :=
  fun H locs ls hP hD hS hl => lv_icmp_ge F.1 F.2.1 d ht (fun c => kt c H locs ls hP hD hS hl) (fun c => kf c H locs ls hP hD hS hl)
theorem ex_if_ge {x : XC} {g : XG} {y0 : XM} {M : Mem} {pc : Nat} {L : List (Nat × Value)} {S : List Value} {a : Int32} {off : Int} {t : Nat} (F : XF x g y0) (d : decode (xmB y0) pc = .ok (.ifCond .ge off, 3)) (ht : (pc : Int) + off = (t : Int))
    (kt : 0 ≤ a → EX x g (xmL y0) M t L S) (kf : ¬ 0 ≤ a → EX x g (xmL y0) M (pc + 3) L S) : EX x g (xmL y0) M pc L (.int a :: S) :=
  fun H locs ls hP hD hS hl => lv_if_ge F.1 F.2.1 d ht (fun c => kt c H locs ls hP hD hS hl) (fun c => kf c H locs ls hP hD hS hl)
theorem ex_icmp_gt {x : XC} {g : XG} {y0 : XM} {M : Mem} {pc : Nat} {L : List (Nat × Value)} {S : List Value} {a b : Int32} {off : Int} {t : Nat} (F : XF x g y0) (d : decode (xmB y0) pc = .ok (.if_icmp .gt off, 3)) (ht : (pc : Int) + off = (t : Int))
    (kt : b < a → EX x g (xmL y0) M t L S) (kf : ¬ b < a → EX x g (xmL y0) M (pc + 3) L S) : EX x g (xmL y0) M pc L (.int b :: .int a :: S) :=
  fun H locs ls hP hD hS hl => lv_icmp_gt F.1 F.2.1 d ht (fun c => kt c H locs ls hP hD hS hl) (fun c => kf c H locs ls hP hD hS hl)
theorem ex_if_gt {x : XC} {g : XG} {y0 : XM} {M : Mem} {pc : Nat} {L : List (Nat × Value)} {S : List Value} {a : Int32} {off : Int} {t : Nat} (F : XF x g y0) (d : decode (xmB y0) pc = .ok (.ifCond .gt off, 3)) (ht : (pc : Int) + off = (t : Int))
    (kt : 0 < a → EX x g (xmL y0) M t L S) (kf : ¬ 0 < a → EX x g (xmL y0) M (pc + 3) L S) : EX x g (xmL y0) M pc L (.int a :: S) :=
  fun H locs ls hP hD hS hl => lv_if_gt F.1 F.2.1 d ht (fun c => kt c H locs ls hP hD hS hl) (fun c => kf c H locs ls hP hD hS hl)
theorem ex_icmp_le {x : XC} {g : XG} {y0 : XM} {M : Mem} {pc : Nat} {L : List (Nat × Value)} {S : List Value} {a b : Int32} {off : Int} {t : Nat} (F : XF x g y0) (d : decode (xmB y0) pc = .ok (.if_icmp .le off, 3)) (ht : (pc : Int) + off = (t : Int))
    (kt : a ≤ b → EX x g (xmL y0) M t L S) (kf : ¬ a ≤ b → EX x g (xmL y0) M (pc + 3) L S) : EX x g (xmL y0) M pc L (.int b :: .int a :: S) :=
  fun H locs ls hP hD hS hl => lv_icmp_le F.1 F.2.1 d ht (fun c => kt c H locs ls hP hD hS hl) (fun c => kf c H locs ls hP hD hS hl)
theorem ex_if_le {x : XC} {g : XG} {y0 : XM} {M : Mem} {pc : Nat} {L : List (Nat × Value)} {S : List Value} {a : Int32} {off : Int} {t : Nat} (F : XF x g y0) (d : decode (xmB y0) pc = .ok (.ifCond .le off, 3)) (ht : (pc : Int) + off = (t : Int))
    (kt : a ≤ 0 → EX x g (xmL y0) M t L S) (kf : ¬ a ≤ 0 → EX x g (xmL y0) M (pc + 3) L S) : EX x g (xmL y0) M pc L (.int a :: S) :=
  fun H locs ls hP hD hS hl => lv_if_le F.1 F.2.1 d ht (fun c => kt c H locs ls hP hD hS hl) (fun c => kf c H locs ls hP hD hS hl)
theorem ex_goto {x : XC} {g : XG} {y0 : XM} {M : Mem} {pc : Nat} {L : List (Nat × Value)} {S : List Value} {off : Int} {t : Nat} (F : XF x g y0) (d : decode (xmB y0) pc = .ok (.goto off, 3)) (ht : (pc : Int) + off = (t : Int)) (k : EX x g (xmL y0) M t L S) : EX x g (xmL y0) M pc L S :=
  fun H locs ls hP hD hS hl => lv_goto F.1 F.2.1 d ht (k H locs ls hP hD hS hl)
theorem ex_weak {x : XC} {g : XG} {y0 : XM} {M : Mem} {pc : Nat} {L : List (Nat × Value)} {S : List Value} {L1 : List (Nat × Value)} (h : lall L L1) (k : EX x g (xmL y0) M pc L1 S) : EX x g (xmL y0) M pc L S :=
  fun H locs ls hP hD hS hl => k H locs ls hP hD hS (lall_sub hl L1 h)
theorem ex_pc {x : XC} {g : XG} {y0 : XM} {M : Mem} {pc : Nat} {L : List (Nat × Value)} {S : List Value} {pc1 : Nat} (h : pc = pc1) (k : EX x g (xmL y0) M pc1 L S) : EX x g (xmL y0) M pc L S := h ▸ k
theorem ex_M {x : XC} {g : XG} {y0 : XM} {M : Mem} {pc : Nat} {L : List (Nat × Value)} {S : List Value} {M1 : Mem} (h : M = M1) (k : EX x g (xmL y0) M1 pc L S) : EX x g (xmL y0) M pc L S := h ▸ k
theorem ex_ifnull {x : XC} {g : XG} {y0 : XM} {M : Mem} {pc : Nat} {L : List (Nat × Value)} {S : List Value} {v : Nat} {off : Int} (F : XF x g y0) (d : decode (xmB y0) pc = .ok (.ifnull off, 3)) (k : EX x g (xmL y0) M (pc + 3) L S) : EX x g (xmL y0) M pc L (.ref v :: S) := fun H locs ls hP hD hS hl => lv_ifnull F.1 F.2.1 d (k H locs ls hP hD hS hl)
theorem ex_ifnonnullN {x : XC} {g : XG} {y0 : XM} {M : Mem} {pc : Nat} {L : List (Nat × Value)} {S : List Value} {off : Int} (F : XF x g y0) (d : decode (xmB y0) pc = .ok (.ifnonnull off, 3)) (k : EX x g (xmL y0) M (pc + 3) L S) : EX x g (xmL y0) M pc L (.null :: S) := fun H locs ls hP hD hS hl => lv_ifnonnullN F.1 F.2.1 d (k H locs ls hP hD hS hl)
theorem ex_ifnonnull {x : XC} {g : XG} {y0 : XM} {M : Mem} {pc : Nat} {L : List (Nat × Value)} {S : List Value} {v : Nat} {off : Int} {t : Nat} (F : XF x g y0) (d : decode (xmB y0) pc = .ok (.ifnonnull off, 3)) (ht : (pc : Int) + off = (t : Int)) (k : EX x g (xmL y0) M t L S) : EX x g (xmL y0) M pc L (.ref v :: S) := fun H locs ls hP hD hS hl => lv_ifnonnull F.1 F.2.1 d ht (k H locs ls hP hD hS hl)
theorem ex_ifnullN {x : XC} {g : XG} {y0 : XM} {M : Mem} {pc : Nat} {L : List (Nat × Value)} {S : List Value} {off : Int} {t : Nat} (F : XF x g y0) (d : decode (xmB y0) pc = .ok (.ifnull off, 3)) (ht : (pc : Int) + off = (t : Int)) (k : EX x g (xmL y0) M t L S) : EX x g (xmL y0) M pc L (.null :: S) := fun H locs ls hP hD hS hl => lv_ifnullN F.1 F.2.1 d ht (k H locs ls hP hD hS hl)
theorem ex_aload_nN {x : XC} {g : XG} {y0 : XM} {M : Mem} {pc : Nat} {L : List (Nat × Value)} {S : List Value} {n : Fin 4} {i : Nat} (F : XF x g y0) (d : decode (xmB y0) pc = .ok (.aload_n n, 1)) (hi : (n : Nat) = i) (hk : L.lookup i = some .null)
    (k : EX x g (xmL y0) M (pc + 1) L (.null :: S)) : EX x g (xmL y0) M pc L S :=
  fun H locs ls hP hD hS hl => lv_aload_nN F.1 F.2.1 d hi (lk_at hl hk) (k H locs ls hP hD hS hl)
theorem ex_aloadN {x : XC} {g : XG} {y0 : XM} {M : Mem} {pc : Nat} {L : List (Nat × Value)} {S : List Value} {i : Nat} (F : XF x g y0) (d : decode (xmB y0) pc = .ok (.aload i, 2)) (hk : L.lookup i = some .null)
    (k : EX x g (xmL y0) M (pc + 2) L (.null :: S)) : EX x g (xmL y0) M pc L S :=
  fun H locs ls hP hD hS hl => lv_aloadN F.1 F.2.1 d (lk_at hl hk) (k H locs ls hP hD hS hl)
theorem ex_astore_nN {x : XC} {g : XG} {y0 : XM} {M : Mem} {pc : Nat} {L : List (Nat × Value)} {S : List Value} {n : Fin 4} {i : Nat} (F : XF x g y0) (d : decode (xmB y0) pc = .ok (.astore_n n, 1)) (hi : (n : Nat) = i) (hn : i < xmL y0) (k : EX x g (xmL y0) M (pc + 1) (lput L i .null) S) : EX x g (xmL y0) M pc L (.null :: S) := fun H locs ls hP hD hS hl => lv_astore_nN F.1 F.2.1 d hi hl hn rfl (fun ls hl => k H locs ls hP hD hS hl)
theorem ex_astoreN {x : XC} {g : XG} {y0 : XM} {M : Mem} {pc : Nat} {L : List (Nat × Value)} {S : List Value} {i : Nat} (F : XF x g y0) (d : decode (xmB y0) pc = .ok (.astore i, 2)) (hn : i < xmL y0) (k : EX x g (xmL y0) M (pc + 2) (lput L i .null) S) : EX x g (xmL y0) M pc L (.null :: S) := fun H locs ls hP hD hS hl => lv_astoreN F.1 F.2.1 d hl hn rfl (fun ls hl => k H locs ls hP hD hS hl)
theorem ex_ldc2 {x : XC} {g : XG} {y0 : XM} {M : Mem} {pc : Nat} {L : List (Nat × Value)} {S : List Value} {i : Nat} {v : Int64} (F : XF x g y0) (d : decode (xmB y0) pc = .ok (.ldc2_w i, 3)) (hw : Cond.constantLong (xmN y0).cls i v ∈ TB) (k : EX x g (xmL y0) M (pc + 3) L (.long v :: S)) : EX x g (xmL y0) M pc L S := fun H locs ls hP hD hS hl => lv_ldc2 F.1 F.2.1 F.2.2.2.1 (F.2.2.2.2.1 _ hw) d (k H locs ls hP hD hS hl)
theorem ex_ldc {x : XC} {g : XG} {y0 : XM} {M : Mem} {pc : Nat} {L : List (Nat × Value)} {S : List Value} {i : Nat} {v : Int32} (F : XF x g y0) (d : decode (xmB y0) pc = .ok (.ldc i, 2)) (hw : Cond.constant (xmN y0).cls i v ∈ TB) (k : EX x g (xmL y0) M (pc + 2) L (.int v :: S)) : EX x g (xmL y0) M pc L S := fun H locs ls hP hD hS hl => lv_ldc F.1 F.2.1 F.2.2.2.1 (F.2.2.2.2.1 _ hw) d (k H locs ls hP hD hS hl)
theorem ex_ldcw {x : XC} {g : XG} {y0 : XM} {M : Mem} {pc : Nat} {L : List (Nat × Value)} {S : List Value} {i : Nat} {v : Int32} (F : XF x g y0) (d : decode (xmB y0) pc = .ok (.ldc_w i, 3)) (hw : Cond.constant (xmN y0).cls i v ∈ TB) (k : EX x g (xmL y0) M (pc + 3) L (.int v :: S)) : EX x g (xmL y0) M pc L S := fun H locs ls hP hD hS hl => lv_ldcw F.1 F.2.1 F.2.2.2.1 (F.2.2.2.2.1 _ hw) d (k H locs ls hP hD hS hl)
theorem ex_tswOut {x : XC} {g : XG} {y0 : XM} {M : Mem} {pc : Nat} {L : List (Nat × Value)} {S : List Value} {v : Int32} {df lo hi : Int} {offs : Array Int} {len t : Nat} (F : XF x g y0) (d : decode (xmB y0) pc = .ok (.tableswitch df lo hi offs, len)) (h : v.toInt < lo ∨ hi < v.toInt) (ht : (pc : Int) + df = (t : Int)) (k : EX x g (xmL y0) M t L S) : EX x g (xmL y0) M pc L (.int v :: S) := fun H locs ls hP hD hS hl => lv_tableOut F.1 F.2.1 d h ht (k H locs ls hP hD hS hl)
theorem ex_tswIn {x : XC} {g : XG} {y0 : XM} {M : Mem} {pc : Nat} {L : List (Nat × Value)} {S : List Value} {v : Int32} {df lo hi off : Int} {offs : Array Int} {len t : Nat} (F : XF x g y0) (d : decode (xmB y0) pc = .ok (.tableswitch df lo hi offs, len)) (h1 : ¬ v.toInt < lo) (h2 : ¬ hi < v.toInt) (ho : offs[(v.toInt - lo).toNat]? = some off) (ht : (pc : Int) + off = (t : Int)) (k : EX x g (xmL y0) M t L S) : EX x g (xmL y0) M pc L (.int v :: S) := fun H locs ls hP hD hS hl => lv_tableIn F.1 F.2.1 d h1 h2 ho ht (k H locs ls hP hD hS hl)
theorem ex_getf {x : XC} {g : XG} {y0 : XM} {M : Mem} {pc : Nat} {L : List (Nat × Value)} {S : List Value} {ci k N j idx a : Nat} {C : String} {T : u_T} {fs : List Value} {v : Value} (F : XF x g y0) (d : decode (xmB y0) pc = .ok (.getfield idx, 3)) (hin : ∀ w ∈ u_ws C T N, w ∈ TB) (he : (WL g M)[k]? = some (a, .inr (ci, fs))) (hc : vwCl[ci]? = some (C, T, N)) (hj : j < N) (hw : Cond.fieldLink (xmN y0).cls idx (T j).1 (T j).2.1 (T j).2.2.1 ∈ TB) (hv : fs[j]? = some v)
    (k : EX x g (xmL y0) M (pc + 3) L (v :: S)) : EX x g (xmL y0) M pc L (.ref a :: S) := fun H locs ls hP hD hS hl => va_get F.1 F.2.1 F.2.2.2.2.1 hin F.2.2.2.1 F.2.2.2.2.2.1 hP _ he hc j hj (F.2.2.2.2.1 _ hw) (fun _ h => h) hv d (k H locs ls hP hD hS hl)
theorem ex_putf {x : XC} {g : XG} {y0 : XM} {M : Mem} {pc : Nat} {L : List (Nat × Value)} {S : List Value} {M1 : Mem} {ci k N j idx a : Nat} {C : String} {T : u_T} {fs : List Value} {ty : FieldType} {v : Value} (F : XF x g y0) (d : decode (xmB y0) pc = .ok (.putfield idx, 3)) (hin : ∀ w ∈ u_ws C T N, w ∈ TB) (ty0 : Nat → FieldType) (hty : ∀ k, k < N → parseFieldDescriptor (T k).2.2.1 = some (ty0 k)) (hnm : ∀ a, a < N → ∀ b, b < N → a ≠ b → (T a).2.1 ≠ (T b).2.1) (he : (WL g M)[k]? = some (a, .inr (ci, fs))) (hc : vwCl[ci]? = some (C, T, N)) (hj : j < N) (hw : Cond.fieldLink (xmN y0).cls idx (T j).1 (T j).2.1 (T j).2.2.1 ∈ TB) (hfin : (T j).2.2.2 = false) (hd : parseFieldDescriptor (T j).2.2.1 = some ty) (hn : narrow ty v = v) (hfit : fits ty v = true) (hlen : j < fs.length) (hset : (WL g M).set k (a, .inr (ci, fs.set j v)) = WL g M1)
    (k : EX x g (xmL y0) M1 (pc + 3) L S) : EX x g (xmL y0) M pc L (v :: .ref a :: S) := fun H locs ls hP hD hS hl => va_put F.1 F.2.1 F.2.2.2.2.1 hin ty0 hty hnm F.2.2.2.1 F.2.2.2.2.2.1 hP hD hS _ he hc j hj (F.2.2.2.2.1 _ hw) (fun _ h => h) hfin hd hn hfit hlen d (fun H1 locs1 hP1 hD1 hS1 => by rw [hset] at hP1 hD1; exact k H1 locs1 ls hP1 hD1 hS1 hl)
theorem mu_eq (M : Mem) (k j : Nat) (y : Int32) : (fun c => if c = k then upd (M k) j y else M c) = mu M k j y := by
  funext c
  by_cases hc : c = k
  · subst hc; simp [mu]
  · simp [mu, hc]
theorem ex_iald {x : XC} {g : XG} {y0 : XM} {M : Mem} {pc : Nat} {L : List (Nat × Value)} {S : List Value} {k n j : Nat} {i : Int32} (F : XF x g y0) (d : decode (xmB y0) pc = .ok (.iaload, 1)) (h : isI k n) (hin : vp_in i n) (hj : i.toNatClampNeg = j)
    (kk : EX x g (xmL y0) M (pc + 1) L (.int (M k j) :: S)) : EX x g (xmL y0) M pc L (.int i :: .ref (ad g k) :: S) := fun H locs ls hP hD hS hl => va_iald F.1 F.2.1 F.2.2.2.2.2.1 hP _ 0 (al_I h) rfl hin d (by rw [hj]; exact kk H locs ls hP hD hS hl)
theorem ex_iast {x : XC} {g : XG} {y0 : XM} {M : Mem} {pc : Nat} {L : List (Nat × Value)} {S : List Value} {k n j : Nat} {i v : Int32} (F : XF x g y0) (d : decode (xmB y0) pc = .ok (.iastore, 1)) (h : isI k n) (hin : vp_in i n) (hj : i.toNatClampNeg = j)
    (kk : EX x g (xmL y0) (mu M k j (v)) (pc + 1) L S) : EX x g (xmL y0) M pc L (.int v :: .int i :: .ref (ad g k) :: S) := fun H locs ls hP hD hS hl => va_iast F.1 F.2.1 F.2.2.2.2.2.1 hP hD hS _ 0 (al_I h) rfl hin d (fun H1 locs1 hP1 hD1 hS1 => by
    rw [hj, as_I h] at hP1 hD1
    have e : (fun c => if c = k then upd (M k) j (v) else M c) = mu M k j (v) := mu_eq M k j _
    rw [e] at hP1 hD1
    exact kk H1 locs1 ls hP1 hD1 hS1 hl)
theorem ex_ilen {x : XC} {g : XG} {y0 : XM} {M : Mem} {pc : Nat} {L : List (Nat × Value)} {S : List Value} {k n : Nat} {v : Int32} (F : XF x g y0) (d : decode (xmB y0) pc = .ok (.arraylength, 1)) (h : isI k n) (hv : Int32.ofNat n = v)
    (kk : EX x g (xmL y0) M (pc + 1) L (.int v :: S)) : EX x g (xmL y0) M pc L (.ref (ad g k) :: S) := fun H locs ls hP hD hS hl => va_alen F.1 F.2.1 F.2.2.2.2.2.1 hP _ 0 (al_I h) rfl hv d (kk H locs ls hP hD hS hl)
theorem ex_bald {x : XC} {g : XG} {y0 : XM} {M : Mem} {pc : Nat} {L : List (Nat × Value)} {S : List Value} {k n j : Nat} {i : Int32} (F : XF x g y0) (d : decode (xmB y0) pc = .ok (.baload, 1)) (h : isB k n) (hin : vp_in i n) (hj : i.toNatClampNeg = j)
    (kk : EX x g (xmL y0) M (pc + 1) L (.int (M k j) :: S)) : EX x g (xmL y0) M pc L (.int i :: .ref (ad g k) :: S) := fun H locs ls hP hD hS hl => va_bald F.1 F.2.1 F.2.2.2.2.2.1 hP _ 1 (al_B h) rfl hin d (by rw [hj]; exact kk H locs ls hP hD hS hl)
theorem ex_bast {x : XC} {g : XG} {y0 : XM} {M : Mem} {pc : Nat} {L : List (Nat × Value)} {S : List Value} {k n j : Nat} {i v : Int32} (F : XF x g y0) (d : decode (xmB y0) pc = .ok (.bastore, 1)) (h : isB k n) (hin : vp_in i n) (hj : i.toNatClampNeg = j)
    (kk : EX x g (xmL y0) (mu M k j (vp_nar .byte v)) (pc + 1) L S) : EX x g (xmL y0) M pc L (.int v :: .int i :: .ref (ad g k) :: S) := fun H locs ls hP hD hS hl => va_bast F.1 F.2.1 F.2.2.2.2.2.1 hP hD hS _ 1 (al_B h) rfl hin d (fun H1 locs1 hP1 hD1 hS1 => by
    rw [hj, as_B h] at hP1 hD1
    have e : (fun c => if c = k then upd (M k) j (vp_nar .byte v) else M c) = mu M k j (vp_nar .byte v) := mu_eq M k j _
    rw [e] at hP1 hD1
    exact kk H1 locs1 ls hP1 hD1 hS1 hl)
theorem ex_blen {x : XC} {g : XG} {y0 : XM} {M : Mem} {pc : Nat} {L : List (Nat × Value)} {S : List Value} {k n : Nat} {v : Int32} (F : XF x g y0) (d : decode (xmB y0) pc = .ok (.arraylength, 1)) (h : isB k n) (hv : Int32.ofNat n = v)
    (kk : EX x g (xmL y0) M (pc + 1) L (.int v :: S)) : EX x g (xmL y0) M pc L (.ref (ad g k) :: S) := fun H locs ls hP hD hS hl => va_alen F.1 F.2.1 F.2.2.2.2.2.1 hP _ 1 (al_B h) rfl hv d (kk H locs ls hP hD hS hl)
theorem ex_zald {x : XC} {g : XG} {y0 : XM} {M : Mem} {pc : Nat} {L : List (Nat × Value)} {S : List Value} {k n j : Nat} {i : Int32} (F : XF x g y0) (d : decode (xmB y0) pc = .ok (.baload, 1)) (h : isZ k n) (hin : vp_in i n) (hj : i.toNatClampNeg = j)
    (kk : EX x g (xmL y0) M (pc + 1) L (.int (M k j) :: S)) : EX x g (xmL y0) M pc L (.int i :: .ref (ad g k) :: S) := fun H locs ls hP hD hS hl => va_zald F.1 F.2.1 F.2.2.2.2.2.1 hP _ 2 (al_Z h) rfl hin d (by rw [hj]; exact kk H locs ls hP hD hS hl)
theorem ex_zast {x : XC} {g : XG} {y0 : XM} {M : Mem} {pc : Nat} {L : List (Nat × Value)} {S : List Value} {k n j : Nat} {i v : Int32} (F : XF x g y0) (d : decode (xmB y0) pc = .ok (.bastore, 1)) (h : isZ k n) (hin : vp_in i n) (hj : i.toNatClampNeg = j)
    (kk : EX x g (xmL y0) (mu M k j (vp_nar .boolean v)) (pc + 1) L S) : EX x g (xmL y0) M pc L (.int v :: .int i :: .ref (ad g k) :: S) := fun H locs ls hP hD hS hl => va_zast F.1 F.2.1 F.2.2.2.2.2.1 hP hD hS _ 2 (al_Z h) rfl hin d (fun H1 locs1 hP1 hD1 hS1 => by
    rw [hj, as_Z h] at hP1 hD1
    have e : (fun c => if c = k then upd (M k) j (vp_nar .boolean v) else M c) = mu M k j (vp_nar .boolean v) := mu_eq M k j _
    rw [e] at hP1 hD1
    exact kk H1 locs1 ls hP1 hD1 hS1 hl)
theorem ex_zlen {x : XC} {g : XG} {y0 : XM} {M : Mem} {pc : Nat} {L : List (Nat × Value)} {S : List Value} {k n : Nat} {v : Int32} (F : XF x g y0) (d : decode (xmB y0) pc = .ok (.arraylength, 1)) (h : isZ k n) (hv : Int32.ofNat n = v)
    (kk : EX x g (xmL y0) M (pc + 1) L (.int v :: S)) : EX x g (xmL y0) M pc L (.ref (ad g k) :: S) := fun H locs ls hP hD hS hl => va_alen F.1 F.2.1 F.2.2.2.2.2.1 hP _ 2 (al_Z h) rfl hv d (kk H locs ls hP hD hS hl)
theorem ex_gets {x : XC} {g : XG} {y0 : XM} {M : Mem} {pc : Nat} {L : List (Nat × Value)} {S : List Value} {i idx : Nat} (F : XF x g y0) (hA : x_A x = x_A x) (d : decode (xmB y0) pc = .ok (.getstatic idx, 3)) (hi : i < 6) (hw : Cond.fieldLink (xmN y0).cls idx (stC i) (stN i) "[I" ∈ TB)
    (k : EX x g (xmL y0) M (pc + 3) L (.ref (sa g i) :: S)) : EX x g (xmL y0) M pc L S := fun H locs ls hP hD hS hl => va_gets F.1 F.2.1 (F.2.2.2.2.2.2.1.1 i hi).1 hS F.2.2.2.1 (F.2.2.2.2.1 _ hw) (fun _ h => h) d (k H locs ls hP hD hS hl)
theorem ex_sald {x : XC} {g : XG} {y0 : XM} {M : Mem} {pc : Nat} {L : List (Nat × Value)} {S : List Value} {i j : Nat} {q : Int32} (F : XF x g y0) (d : decode (xmB y0) pc = .ok (.iaload, 1)) (hi : i < 6) (hin : vp_in q (stL i)) (hj : q.toNatClampNeg = j)
    (k : EX x g (xmL y0) M (pc + 1) L (.int ((stV i).getD j 0) :: S)) : EX x g (xmL y0) M pc L (.int q :: .ref (sa g i) :: S) := fun H locs ls hP hD hS hl => va_ti F.1 F.2.1 (F.2.2.2.2.2.2.1.1 i hi).2 hS hin (v := .int ((stV i).getD j 0)) (by rw [hj]) d (k H locs ls hP hD hS hl)
theorem ex_slen {x : XC} {g : XG} {y0 : XM} {M : Mem} {pc : Nat} {L : List (Nat × Value)} {S : List Value} {i : Nat} {v : Int32} (F : XF x g y0) (d : decode (xmB y0) pc = .ok (.arraylength, 1)) (hi : i < 6) (hv : Int32.ofNat (stL i) = v)
    (k : EX x g (xmL y0) M (pc + 1) L (.int v :: S)) : EX x g (xmL y0) M pc L (.ref (sa g i) :: S) := fun H locs ls hP hD hS hl => va_tlen F.1 F.2.1 (F.2.2.2.2.2.2.1.1 i hi).2 hS hv d (k H locs ls hP hD hS hl)
theorem ex_mmax {x : XC} {g : XG} {y0 : XM} {M : Mem} {pc : Nat} {L : List (Nat × Value)} {S : List Value} {idx : Nat} {a b : Int32} (F : XF x g y0) (d : decode (xmB y0) pc = .ok (.invokestatic idx, 3)) (hw : Cond.methodLink (xmN y0).cls idx Lib.Math.max.name ∈ TB) (hst : Cond.static Lib.Math.max.name ∈ TB) (hi : Cond.initialized "java/lang/Math" ∈ TB) (hcd : Cond.code Lib.Math.max.name Lib.Math.max.code 2 (some .int) ∈ TB) (hf : 1 ≤ xmF y0) (hr : (S.map fun v => v.category).sum + 13 ≤ xmW y0)
    (k : EX x g (xmL y0) M (pc + 3) L (.int (if a < b then b else a) :: S)) : EX x g (xmL y0) M pc L (.int b :: .int a :: S) := fun H locs ls hP hD hS hl => va_mmax F.1 F.2.1 (by rw [F.2.2.1]; exact hl.1.symm) F.2.2.2.1 (F.2.2.2.2.1 _ hw) (F.2.2.2.2.1 _ hst) (F.2.2.2.2.1 _ hi) (F.2.2.2.2.1 _ hcd) (Nat.le_trans hf F.2.2.2.2.2.2.2.2.1) (Nat.le_trans hr F.2.2.2.2.2.2.2.2.2.1) F.2.2.2.2.2.2.2.2.2.2.1 F.2.2.2.2.2.2.2.2.2.2.2 d (k H locs ls hP hD hS hl)
theorem ex_mmin {x : XC} {g : XG} {y0 : XM} {M : Mem} {pc : Nat} {L : List (Nat × Value)} {S : List Value} {idx : Nat} {a b : Int32} (F : XF x g y0) (d : decode (xmB y0) pc = .ok (.invokestatic idx, 3)) (hw : Cond.methodLink (xmN y0).cls idx Lib.Math.min.name ∈ TB) (hst : Cond.static Lib.Math.min.name ∈ TB) (hi : Cond.initialized "java/lang/Math" ∈ TB) (hcd : Cond.code Lib.Math.min.name Lib.Math.min.code 2 (some .int) ∈ TB) (hf : 1 ≤ xmF y0) (hr : (S.map fun v => v.category).sum + 13 ≤ xmW y0)
    (k : EX x g (xmL y0) M (pc + 3) L (.int (if b < a then b else a) :: S)) : EX x g (xmL y0) M pc L (.int b :: .int a :: S) := fun H locs ls hP hD hS hl => va_mmin F.1 F.2.1 (by rw [F.2.2.1]; exact hl.1.symm) F.2.2.2.1 (F.2.2.2.2.1 _ hw) (F.2.2.2.2.1 _ hst) (F.2.2.2.2.1 _ hi) (F.2.2.2.2.1 _ hcd) (Nat.le_trans hf F.2.2.2.2.2.2.2.2.1) (Nat.le_trans hr F.2.2.2.2.2.2.2.2.2.1) F.2.2.2.2.2.2.2.2.2.2.1 F.2.2.2.2.2.2.2.2.2.2.2 d (k H locs ls hP hD hS hl)
theorem im_j {g : XG} {j : Nat} (h : j < 2) : va_rf (if j = 0 then some (ad g 20) else some (ad g 23)) = .ref (ad g (20 + 3 * j)) := by
  match j, h with
  | 0, _ => rfl
  | 1, _ => rfl
theorem sh_j {g : XG} {j : Nat} (h : j < 4) : va_rf (if j = 0 then some (ad g 27) else if j = 1 then some (ad g 29) else if j = 2 then some (ad g 31) else some (ad g 33)) = .ref (ad g (27 + 2 * j)) := by
  match j, h with
  | 0, _ => rfl
  | 1, _ => rfl
  | 2, _ => rfl
  | 3, _ => rfl
theorem ex_aald_im {x : XC} {g : XG} {y0 : XM} {M : Mem} {pc : Nat} {L : List (Nat × Value)} {S : List Value} {j : Nat} {i : Int32} (F : XF x g y0) (d : decode (xmB y0) pc = .ok (.aaload, 1)) (hin : vp_in i 2) (hj : i.toNatClampNeg = j)
    (k : EX x g (xmL y0) M (pc + 1) L (.ref (ad g (20 + 3 * j)) :: S)) : EX x g (xmL y0) M pc L (.int i :: .ref (ad g 19) :: S) := fun H locs ls hP hD hS hl => va_aldq F.1 F.2.1 F.2.2.2.2.2.1 hP 19 3 (n := 2) (cA := cA g 3) (C := "ButterChurn$Image") (f := fun i => if i = 0 then some (ad g 20) else some (ad g 23)) rfl rfl hin d (by rw [hj]; rw [im_j (by rw [← hj]; exact Nat.not_le.mp fun q => hin (Or.inr q))]; exact k H locs ls hP hD hS hl)
theorem ex_aald_sh {x : XC} {g : XG} {y0 : XM} {M : Mem} {pc : Nat} {L : List (Nat × Value)} {S : List Value} {j : Nat} {i : Int32} (F : XF x g y0) (d : decode (xmB y0) pc = .ok (.aaload, 1)) (hin : vp_in i 4) (hj : i.toNatClampNeg = j)
    (k : EX x g (xmL y0) M (pc + 1) L (.ref (ad g (27 + 2 * j)) :: S)) : EX x g (xmL y0) M pc L (.int i :: .ref (ad g 26) :: S) := fun H locs ls hP hD hS hl => va_aldq F.1 F.2.1 F.2.2.2.2.2.1 hP 26 4 (n := 4) (cA := cA g 4) (C := "ButterChurn$Sheet") (f := fun i => if i = 0 then some (ad g 27) else if i = 1 then some (ad g 29) else if i = 2 then some (ad g 31) else some (ad g 33)) rfl rfl hin d (by rw [hj]; rw [sh_j (by rw [← hj]; exact Nat.not_le.mp fun q => hin (Or.inr q))]; exact k H locs ls hP hD hS hl)
theorem ex_alen_im {x : XC} {g : XG} {y0 : XM} {M : Mem} {pc : Nat} {L : List (Nat × Value)} {S : List Value} {v : Int32} (F : XF x g y0) (d : decode (xmB y0) pc = .ok (.arraylength, 1)) (hv : Int32.ofNat 2 = v)
    (k : EX x g (xmL y0) M (pc + 1) L (.int v :: S)) : EX x g (xmL y0) M pc L (.ref (ad g 19) :: S) := fun H locs ls hP hD hS hl => va_alen F.1 F.2.1 F.2.2.2.2.2.1 hP 19 3 rfl rfl hv d (k H locs ls hP hD hS hl)
theorem ex_alen_sh {x : XC} {g : XG} {y0 : XM} {M : Mem} {pc : Nat} {L : List (Nat × Value)} {S : List Value} {v : Int32} (F : XF x g y0) (d : decode (xmB y0) pc = .ok (.arraylength, 1)) (hv : Int32.ofNat 4 = v)
    (k : EX x g (xmL y0) M (pc + 1) L (.int v :: S)) : EX x g (xmL y0) M pc L (.ref (ad g 26) :: S) := fun H locs ls hP hD hS hl => va_alen F.1 F.2.1 F.2.2.2.2.2.1 hP 26 4 rfl rfl hv d (k H locs ls hP hD hS hl)
theorem ex_copyi {x : XC} {g : XG} {y0 : XM} {M : Mem} {pc : Nat} {L : List (Nat × Value)} {S : List Value} {idx k0 k1 n0 n1 : Nat} {sp dp n : Int32} (F : XF x g y0) (d : decode (xmB y0) pc = .ok (.invokestatic idx, 3)) (hw : Cond.methodLink (xmN y0).cls idx arraycopyName ∈ TB) (hna : Cond.native arraycopyName ∈ TB) (hst : Cond.static arraycopyName ∈ TB) (hi : Cond.initialized "java/lang/System" ∈ TB) (h0 : isI k0 n0) (h1 : isI k1 n1) (q1 : ¬ sp < 0) (q2 : ¬ dp < 0) (q3 : ¬ n < 0) (q4 : sp.toNatClampNeg + n.toNatClampNeg ≤ n0) (q5 : dp.toNatClampNeg + n.toNatClampNeg ≤ n1) (hf : 1 ≤ xmF y0) (hr : (S.map fun v => v.category).sum + 18 ≤ xmW y0)
    (k : EX x g (xmL y0) (fun c => if c = k1 then va_cpy (M k0) (M k1) sp.toNatClampNeg dp.toNatClampNeg n.toNatClampNeg else M c) (pc + 3) L S) : EX x g (xmL y0) M pc L (.int n :: .int dp :: .ref (ad g k1) :: .int sp :: .ref (ad g k0) :: S) := fun H locs ls hP hD hS hl => va_copyi F.1 F.2.1 (by rw [F.2.2.1]; exact hl.1.symm) F.2.2.2.1 (F.2.2.2.2.1 _ hw) (F.2.2.2.2.1 _ hna) (F.2.2.2.2.1 _ hst) (F.2.2.2.2.1 _ hi) F.2.2.2.2.2.1 hP hD hS k0 k1 0 0 (al_I h0) (al_I h1) rfl rfl rfl q1 q2 q3 q4 q5 (fun _ _ => rfl) (Nat.le_trans hf F.2.2.2.2.2.2.2.2.1) (Nat.le_trans hr F.2.2.2.2.2.2.2.2.2.1) d (fun H1 locs1 hP1 hD1 hS1 => by rw [as_I h1] at hP1 hD1; exact k H1 locs1 ls hP1 hD1 hS1 hl)
def PI (Q : Int32 → Mem → Prop) : Option Value → Mem → Prop := fun r M => ∃ v : Int32, r = some (.int v) ∧ Q v M
def PL (Q : Int64 → Mem → Prop) : Option Value → Mem → Prop := fun r M => ∃ v : Int64, r = some (.long v) ∧ Q v M
def PV (Q : Mem → Prop) : Option Value → Mem → Prop := fun r M => r = none ∧ Q M
def PA (Q : Value → Mem → Prop) : Option Value → Mem → Prop := fun r M => ∃ v : Value, r = some v ∧ Q v M
theorem ex_iret {x : XC} {g : XG} {y0 : XM} {M : Mem} {pc : Nat} {L : List (Nat × Value)} {v : Int32} {P0 : Int32 → Mem → Prop} (F : XF x g y0) (R : XR x g y0 (PI P0)) (d : decode (xmB y0) pc = .ok (.ireturn, 1)) (hr : xmR y0 = some .int) (h : P0 v M) : EX x g (xmL y0) M pc L [.int v] := fun H locs ls hP hD hS hl => by
  obtain ⟨r1, r2, r3, r4, r5, r6⟩ := R
  show W _ _ _ _ _ _ _ _ _ _ _ _ (x_ce x) (x_sl x) (x_Q x) _
  rw [r1, r2, r4]
  rw [r3] at hD hS
  exact W.iret F.1 F.2.1 (r5.trans hr) (fun t ht hW => ⟨⟨_, M, rfl, ⟨v, rfl, h⟩, by rw [ht]; exact hP, hD⟩, hS.F ht⟩) hS.2.2 d r6
theorem ex_zret {x : XC} {g : XG} {y0 : XM} {M : Mem} {pc : Nat} {L : List (Nat × Value)} {v : Int32} {ty : FieldType} {P0 : Int32 → Mem → Prop} (F : XF x g y0) (R : XR x g y0 (PI P0)) (d : decode (xmB y0) pc = .ok (.ireturn, 1)) (hr : xmR y0 = some ty) (hn : narrow ty (.int v) = .int v) (h : P0 v M) : EX x g (xmL y0) M pc L [.int v] := fun H locs ls hP hD hS hl => by
  obtain ⟨r1, r2, r3, r4, r5, r6⟩ := R
  show W _ _ _ _ _ _ _ _ _ _ _ _ (x_ce x) (x_sl x) (x_Q x) _
  rw [r1, r2, r4]
  rw [r3] at hD hS
  exact W.zret F.1 F.2.1 (r5.trans hr) hn (fun t ht hW => ⟨⟨_, M, rfl, ⟨v, rfl, h⟩, by rw [ht]; exact hP, hD⟩, hS.F ht⟩) hS.2.2 d r6
theorem ex_lret {x : XC} {g : XG} {y0 : XM} {M : Mem} {pc : Nat} {L : List (Nat × Value)} {v : Int64} {P0 : Int64 → Mem → Prop} (F : XF x g y0) (R : XR x g y0 (PL P0)) (d : decode (xmB y0) pc = .ok (.lreturn, 1)) (hr : xmR y0 = some .long) (h : P0 v M) : EX x g (xmL y0) M pc L [.long v] := fun H locs ls hP hD hS hl => by
  obtain ⟨r1, r2, r3, r4, r5, r6⟩ := R
  show W _ _ _ _ _ _ _ _ _ _ _ _ (x_ce x) (x_sl x) (x_Q x) _
  rw [r1, r2, r4]
  rw [r3] at hD hS
  exact W.lret F.1 F.2.1 (r5.trans hr) (fun t ht hW => ⟨⟨_, M, rfl, ⟨v, rfl, h⟩, by rw [ht]; exact hP, hD⟩, hS.F ht⟩) hS.2.2 d r6
theorem ex_vret {x : XC} {g : XG} {y0 : XM} {M : Mem} {pc : Nat} {L : List (Nat × Value)}  {P0 : Mem → Prop} (F : XF x g y0) (R : XR x g y0 (PV P0)) (d : decode (xmB y0) pc = .ok (.return_, 1)) (hr : xmR y0 = none) (h : P0 M) : EX x g (xmL y0) M pc L [] := fun H locs ls hP hD hS hl => by
  obtain ⟨r1, r2, r3, r4, r5, r6⟩ := R
  show W _ _ _ _ _ _ _ _ _ _ _ _ (x_ce x) (x_sl x) (x_Q x) _
  rw [r1, r2, r4]
  rw [r3] at hD hS
  exact W.vret F.1 F.2.1 (r5.trans hr) (fun t ht hW => ⟨⟨_, M, rfl, ⟨rfl, h⟩, by rw [ht]; exact hP, hD⟩, hS.F ht⟩) hS.2.2 d r6
theorem ex_aret {x : XC} {g : XG} {y0 : XM} {M : Mem} {pc : Nat} {L : List (Nat × Value)} {v : Value} {C : String} {P0 : Value → Mem → Prop} (F : XF x g y0) (R : XR x g y0 (PA P0)) (d : decode (xmB y0) pc = .ok (.areturn, 1)) (hr : xmR y0 = some (.object C)) (hv : v = .null ∨ ∃ a, v = .ref a) (h : P0 v M) : EX x g (xmL y0) M pc L [v] := fun H locs ls hP hD hS hl => by
  obtain ⟨r1, r2, r3, r4, r5, r6⟩ := R
  show W _ _ _ _ _ _ _ _ _ _ _ _ (x_ce x) (x_sl x) (x_Q x) _
  rw [r1, r2, r4]
  rw [r3] at hD hS
  exact W.aret F.1 F.2.1 (r5.trans hr) (Or.inl ⟨_, rfl⟩) hv (fun t ht hW => ⟨⟨_, M, rfl, ⟨v, rfl, h⟩, by rw [ht]; exact hP, hD⟩, hS.F ht⟩) hS.2.2 d r6
/-- what the tables say of a call, decided by program -/
def CSb (own : String) (yF yW idx n : Nat) (z : XM) : Prop := Cond.methodLink own idx (xmN z) ∈ TB ∧ Cond.initialized (xmN z).cls ∈ TB ∧ xcode z ∈ TB ∧ ((xmN z).cls ≠ "java/lang/invoke/MethodHandle" ∧ (xmN z).cls ≠ "java/lang/invoke/VarHandle" ∧ (parseMethodDescriptor (xmN z).desc).map (fun d => d.parameters.length) = some n) ∧ (xmF z + 1 ≤ yF ∧ 8 + (xmL z + 11) + xmW z ≤ yW)
def CSV (own : String) (yF yW idx n : Nat) (z : XM) : Prop := CSb own yF yW idx n z ∧ Cond.instanceMethod (xmN z) ∈ TB ∧ Cond.selects (xmN z).cls (xmN z) (xmN z) ∈ TB
def CSS (own : String) (yF yW idx n : Nat) (z : XM) : Prop := CSb own yF yW idx n z ∧ Cond.static (xmN z) ∈ TB
theorem cs_b {x : XC} {g : XG} {y0 z : XM} {idx n : Nat} (F : XF x g y0) (h : CSb (xmN y0).cls (xmF y0) (xmW y0) idx n z) : CallB (x_R x) (x_s x) (x_a x) (xmN y0).cls idx (xmN z) (xmB z) (xmL z) (xmR z) (xws z) (xrm z) 0 0 n :=
  callB_of (Ts := TB) n F.2.2.2.2.1 (tb_in h.2.2.1) rfl rfl rfl (F.2.2.2.2.1 _ h.2.1) (F.2.2.2.2.1 _ h.1) h.2.2.2.1 ⟨Nat.le_trans h.2.2.2.2.1 F.2.2.2.2.2.2.2.2.1, Nat.le_trans h.2.2.2.2.2 F.2.2.2.2.2.2.2.2.2.1⟩
theorem xpc_at {x : XC} {g : XG} {y0 : XM} {M : Mem} {H : Heap} {locs : List Loc} {As : List Value} (F : XF x g y0) (hP : va_P g.1 vwCl (WL g M) H) (hD : va_D (x_A x) (WL g M)) (hS : va_S (x_A x) (x_s x).heap H locs) : ∀ U : State, U.heap = H → (x_s x).WarmedH U.vm → xPc g M H.size As As.toArray U := by
  intro U hU hW
  refine ⟨rfl, by rw [hU], by rw [hU]; exact hP, va_K.moved hW.alike F.2.2.2.2.2.1, hD.weaken (fun _ _ _ _ => trivial), ?_⟩
  rw [hU]
  exact ((CO.kept F.2.2.2.2.2.2.1 hS.2.1).narrow (xa_in hD F.2.2.2.2.2.2.2.1 hS.1)).warm hW
theorem ex_back {x : XC} {g : XG} {y0 : XM} {M : Mem} {pc : Nat} {L : List (Nat × Value)} {S : List Value} {P0 : Option Value → Mem → Prop} {a : Array Value} {St : List Value} (F : XF x g y0) {H : Heap} {locs : List Loc} {ls : Array Slot} (hD : va_D (x_A x) (WL g M)) (hS : va_S (x_A x) (x_s x).heap H locs) (hl : lv_has ls (xmL y0) L)
    (hr : va_Run (x_p x) (x_l x) (x_e x) (x_R x) (x_s x) (x_m x) (x_a x) (x_b x) (x_me x) (x_c x) H locs (x_ce x) (x_sl x) 0 0 (F0 (x_m x) pc ls St) S (xQc g H.size P0 a) (XA g H.size))
    (kk : ∀ (r : Option Value) (M1 : Mem), P0 r M1 → EX x g (xmL y0) M1 (pc + 3) L (r.toList ++ S)) :
    W (x_p x) (x_l x) (x_e x) (x_R x) (x_s x) (x_m x) (x_a x) (x_b x) (x_me x) (x_c x) H locs (x_ce x) (x_sl x) (x_Q x) (F0 (x_m x) pc ls St) := by
  intro T hT X
  obtain ⟨v, st₀, t, T', L9, h0, X', hL, e1, e2, ⟨⟨r, M1, hv, hp, hP1, hD1⟩, hz, hk⟩, st⟩ := hr T hT X
  cases hv
  rw [h0] at hz hk
  have hin := xa_in hD F.2.2.2.2.2.2.2.1 hS.1
  obtain ⟨t2, a1, b1⟩ := kk v M1 hp T'.heap (locs ++ L9) ls (by rw [e1]; exact hP1) (hD1.weaken (fun _ q _ h => hin q.1 h))
    ⟨Nat.le_trans hS.1 (by rw [e1]; exact hz), fun q h1 h2 => by rw [e1, hk q (Nat.lt_of_lt_of_le h1 hS.1) (fun z => h2 (hin q z))]; exact hS.2.1 q h1 h2, fun q hq => by
      rcases List.mem_append.mp hq with h | h
      · exact hS.2.2 q h
      · exact hin _ (hL q h)⟩ hl T' rfl X'
  exact ⟨t2, st t2 a1, b1⟩
theorem ex_callV {x : XC} {g : XG} {y0 : XM} {M : Mem} {pc : Nat} {L : List (Nat × Value)} {S : List Value} {z : XM} {idx n k ci a N : Nat} {T : u_T} {C : String} {fs : List Value} {As St : List Value} {P0 : Option Value → Mem → Prop} (F : XF x g y0) (hC : Call (x_l x) g z (.ref a :: As) M P0) (d : decode (xmB y0) pc = .ok (.invokevirtual idx, 3)) (cs : CSV (xmN y0).cls (xmF y0) (xmW y0) idx n z) (he : (WL g M)[k]? = some (a, .inr (ci, fs))) (hc : vwCl[ci]? = some (C, T, N)) (hcl : (xmN z).cls = C) (hn : As.length = n) (hst : St = As.reverse ++ .ref a :: S) (hW : (S.map fun v => v.category).sum ≤ 8)
    (kk : ∀ (r : Option Value) (M1 : Mem), P0 r M1 → EX x g (xmL y0) M1 (pc + 3) L (r.toList ++ S)) : EX x g (xmL y0) M pc L St := fun H locs ls hP hD hS hl => by
  subst hcl
  exact ex_back F hD hS hl (va_runV (As := As) (rest := S) ⟨F.1, F.2.1, F.2.2.1, F.2.2.2.1, F.2.2.2.2.1⟩ (hC H.size) ⟨cs_b F cs.1, F.2.2.2.2.1 _ cs.2.1, F.2.2.2.2.1 _ cs.2.2⟩ ⟨xPc_blind _ _ _ _, va_recv F.2.2.2.2.2.1 hP hc he, xpc_at F hP hD hS⟩ rfl hn hl.1 hst (lv_room hW) d ⟨F.2.2.2.2.2.2.2.2.2.2.1, F.2.2.2.2.2.2.2.2.2.2.2⟩) kk
theorem ex_callS {x : XC} {g : XG} {y0 : XM} {M : Mem} {pc : Nat} {L : List (Nat × Value)} {S : List Value} {z : XM} {idx n : Nat} {As St : List Value} {P0 : Option Value → Mem → Prop} (F : XF x g y0) (hC : Call (x_l x) g z As M P0) (d : decode (xmB y0) pc = .ok (.invokestatic idx, 3)) (cs : CSS (xmN y0).cls (xmF y0) (xmW y0) idx n z) (hn : As.length = n) (hst : St = As.reverse ++ S) (hW : (S.map fun v => v.category).sum ≤ 8)
    (kk : ∀ (r : Option Value) (M1 : Mem), P0 r M1 → EX x g (xmL y0) M1 (pc + 3) L (r.toList ++ S)) : EX x g (xmL y0) M pc L St := fun H locs ls hP hD hS hl => by
  exact ex_back F hD hS hl (va_runS (As := As) (rest := S) ⟨F.1, F.2.1, F.2.2.1, F.2.2.2.1, F.2.2.2.2.1⟩ (hC H.size) ⟨cs_b F cs.1, F.2.2.2.2.1 _ cs.2⟩ ⟨xPc_blind _ _ _ _, xpc_at F hP hD hS⟩ rfl hn hl.1 hst (lv_room hW) d ⟨F.2.2.2.2.2.2.2.2.2.2.1, F.2.2.2.2.2.2.2.2.2.2.2⟩) kk
theorem vpd {i : Int32} {n : Nat} (h : (!decide (i < 0) && decide (i.toNatClampNeg < n)) = true) : vp_in i n := by
  simp only [Bool.and_eq_true, Bool.not_eq_true', decide_eq_false_iff_not, decide_eq_true_eq] at h
  exact fun q => q.elim h.1 (fun q => absurd h.2 (Nat.not_lt.mpr q))

theorem ex_callVi {x : XC} {g : XG} {y0 : XM} {M : Mem} {pc : Nat} {L : List (Nat × Value)} {S : List Value} {z : XM} {idx n k ci a N : Nat} {T : u_T} {C : String} {fs : List Value} {As St : List Value} {P0 : Int32 → Mem → Prop} (F : XF x g y0) (hC : Call (x_l x) g z (.ref a :: As) M (PI P0)) (d : decode (xmB y0) pc = .ok (.invokevirtual idx, 3)) (cs : CSV (xmN y0).cls (xmF y0) (xmW y0) idx n z) (he : (WL g M)[k]? = some (a, .inr (ci, fs))) (hc : vwCl[ci]? = some (C, T, N)) (hcl : (xmN z).cls = C) (hn : As.length = n) (hst : St = As.reverse ++ .ref a :: S) (hW : (S.map fun v => v.category).sum ≤ 8)
    (kk : ∀ (v : Int32) (M1 : Mem), P0 v M1 → EX x g (xmL y0) M1 (pc + 3) L (.int v :: S)) : EX x g (xmL y0) M pc L St := ex_callV F hC d cs he hc hcl hn hst hW (fun r M1 h => by obtain ⟨v, rfl, h⟩ := h; exact kk v M1 h)
theorem ex_callSi {x : XC} {g : XG} {y0 : XM} {M : Mem} {pc : Nat} {L : List (Nat × Value)} {S : List Value} {z : XM} {idx n : Nat} {As St : List Value} {P0 : Int32 → Mem → Prop} (F : XF x g y0) (hC : Call (x_l x) g z As M (PI P0)) (d : decode (xmB y0) pc = .ok (.invokestatic idx, 3)) (cs : CSS (xmN y0).cls (xmF y0) (xmW y0) idx n z) (hn : As.length = n) (hst : St = As.reverse ++ S) (hW : (S.map fun v => v.category).sum ≤ 8)
    (kk : ∀ (v : Int32) (M1 : Mem), P0 v M1 → EX x g (xmL y0) M1 (pc + 3) L (.int v :: S)) : EX x g (xmL y0) M pc L St := ex_callS F hC d cs hn hst hW (fun r M1 h => by obtain ⟨v, rfl, h⟩ := h; exact kk v M1 h)
theorem ex_callVl {x : XC} {g : XG} {y0 : XM} {M : Mem} {pc : Nat} {L : List (Nat × Value)} {S : List Value} {z : XM} {idx n k ci a N : Nat} {T : u_T} {C : String} {fs : List Value} {As St : List Value} {P0 : Int64 → Mem → Prop} (F : XF x g y0) (hC : Call (x_l x) g z (.ref a :: As) M (PL P0)) (d : decode (xmB y0) pc = .ok (.invokevirtual idx, 3)) (cs : CSV (xmN y0).cls (xmF y0) (xmW y0) idx n z) (he : (WL g M)[k]? = some (a, .inr (ci, fs))) (hc : vwCl[ci]? = some (C, T, N)) (hcl : (xmN z).cls = C) (hn : As.length = n) (hst : St = As.reverse ++ .ref a :: S) (hW : (S.map fun v => v.category).sum ≤ 8)
    (kk : ∀ (v : Int64) (M1 : Mem), P0 v M1 → EX x g (xmL y0) M1 (pc + 3) L (.long v :: S)) : EX x g (xmL y0) M pc L St := ex_callV F hC d cs he hc hcl hn hst hW (fun r M1 h => by obtain ⟨v, rfl, h⟩ := h; exact kk v M1 h)
theorem ex_callSl {x : XC} {g : XG} {y0 : XM} {M : Mem} {pc : Nat} {L : List (Nat × Value)} {S : List Value} {z : XM} {idx n : Nat} {As St : List Value} {P0 : Int64 → Mem → Prop} (F : XF x g y0) (hC : Call (x_l x) g z As M (PL P0)) (d : decode (xmB y0) pc = .ok (.invokestatic idx, 3)) (cs : CSS (xmN y0).cls (xmF y0) (xmW y0) idx n z) (hn : As.length = n) (hst : St = As.reverse ++ S) (hW : (S.map fun v => v.category).sum ≤ 8)
    (kk : ∀ (v : Int64) (M1 : Mem), P0 v M1 → EX x g (xmL y0) M1 (pc + 3) L (.long v :: S)) : EX x g (xmL y0) M pc L St := ex_callS F hC d cs hn hst hW (fun r M1 h => by obtain ⟨v, rfl, h⟩ := h; exact kk v M1 h)
theorem ex_callVa {x : XC} {g : XG} {y0 : XM} {M : Mem} {pc : Nat} {L : List (Nat × Value)} {S : List Value} {z : XM} {idx n k ci a N : Nat} {T : u_T} {C : String} {fs : List Value} {As St : List Value} {P0 : Value → Mem → Prop} (F : XF x g y0) (hC : Call (x_l x) g z (.ref a :: As) M (PA P0)) (d : decode (xmB y0) pc = .ok (.invokevirtual idx, 3)) (cs : CSV (xmN y0).cls (xmF y0) (xmW y0) idx n z) (he : (WL g M)[k]? = some (a, .inr (ci, fs))) (hc : vwCl[ci]? = some (C, T, N)) (hcl : (xmN z).cls = C) (hn : As.length = n) (hst : St = As.reverse ++ .ref a :: S) (hW : (S.map fun v => v.category).sum ≤ 8)
    (kk : ∀ (v : Value) (M1 : Mem), P0 v M1 → EX x g (xmL y0) M1 (pc + 3) L (v :: S)) : EX x g (xmL y0) M pc L St := ex_callV F hC d cs he hc hcl hn hst hW (fun r M1 h => by obtain ⟨v, rfl, h⟩ := h; exact kk v M1 h)
theorem ex_callSa {x : XC} {g : XG} {y0 : XM} {M : Mem} {pc : Nat} {L : List (Nat × Value)} {S : List Value} {z : XM} {idx n : Nat} {As St : List Value} {P0 : Value → Mem → Prop} (F : XF x g y0) (hC : Call (x_l x) g z As M (PA P0)) (d : decode (xmB y0) pc = .ok (.invokestatic idx, 3)) (cs : CSS (xmN y0).cls (xmF y0) (xmW y0) idx n z) (hn : As.length = n) (hst : St = As.reverse ++ S) (hW : (S.map fun v => v.category).sum ≤ 8)
    (kk : ∀ (v : Value) (M1 : Mem), P0 v M1 → EX x g (xmL y0) M1 (pc + 3) L (v :: S)) : EX x g (xmL y0) M pc L St := ex_callS F hC d cs hn hst hW (fun r M1 h => by obtain ⟨v, rfl, h⟩ := h; exact kk v M1 h)
theorem ex_callVv {x : XC} {g : XG} {y0 : XM} {M : Mem} {pc : Nat} {L : List (Nat × Value)} {S : List Value} {z : XM} {idx n k ci a N : Nat} {T : u_T} {C : String} {fs : List Value} {As St : List Value} {P0 : Mem → Prop} (F : XF x g y0) (hC : Call (x_l x) g z (.ref a :: As) M (PV P0)) (d : decode (xmB y0) pc = .ok (.invokevirtual idx, 3)) (cs : CSV (xmN y0).cls (xmF y0) (xmW y0) idx n z) (he : (WL g M)[k]? = some (a, .inr (ci, fs))) (hc : vwCl[ci]? = some (C, T, N)) (hcl : (xmN z).cls = C) (hn : As.length = n) (hst : St = As.reverse ++ .ref a :: S) (hW : (S.map fun v => v.category).sum ≤ 8)
    (kk : ∀ (M1 : Mem), P0 M1 → EX x g (xmL y0) M1 (pc + 3) L S) : EX x g (xmL y0) M pc L St := ex_callV F hC d cs he hc hcl hn hst hW (fun r M1 h => by obtain ⟨rfl, h⟩ := h; exact kk M1 h)
end
section
theorem in_of {ws : List Cond} (h1 : ∀ w ∈ ws, w ∈ lw_tbl) (h2 : ws.all goodWord = true) : ∀ w ∈ ws, w ∈ TB := fun w h => tb_of (h1 w h) (List.all_eq_true.mp h2 w h)
theorem tb_1 {w : Cond} (i : Nat) (h : tables_1_1[i]? = some w) (hg : goodWord w = true) : w ∈ TB := tb_of (List.mem_append_right _ (List.mem_append_left _ (List.mem_of_getElem? h))) hg
theorem tb_2 {w : Cond} (i : Nat) (h : tables_1_2[i]? = some w) (hg : goodWord w = true) : w ∈ TB := tb_of (List.mem_append_right _ (List.mem_append_right _ (List.mem_append_left _ (List.mem_of_getElem? h)))) hg
theorem tb_3 {w : Cond} (i : Nat) (h : tables_1_3[i]? = some w) (hg : goodWord w = true) : w ∈ TB := tb_of (List.mem_append_right _ (List.mem_append_right _ (List.mem_append_right _ (List.mem_append_left _ (List.mem_of_getElem? h))))) hg
theorem tb_4 {w : Cond} (i : Nat) (h : tables_1_4[i]? = some w) (hg : goodWord w = true) : w ∈ TB := tb_of (List.mem_append_right _ (List.mem_append_right _ (List.mem_append_right _ (List.mem_append_right _ (List.mem_append_left _ (List.mem_of_getElem? h)))))) hg
theorem tb_5 {w : Cond} (i : Nat) (h : tables_1_5[i]? = some w) (hg : goodWord w = true) : w ∈ TB := tb_of (List.mem_append_right _ (List.mem_append_right _ (List.mem_append_right _ (List.mem_append_right _ (List.mem_append_right _ (List.mem_of_getElem? h)))))) hg
theorem tb_0 {w : Cond} (i : Nat) (h : (k2_sels lw_privs)[i]? = some w) (hg : goodWord w = true) : w ∈ TB := tb_of (List.mem_append_left _ (List.mem_of_getElem? h)) hg
theorem la_0_0 : u_lay RX0 TX0 0 ∈ TB := tb_1 178 (by decide +kernel) (by decide +kernel)
theorem la_0_1 : u_lay RX0 TX0 1 ∈ TB := tb_1 180 (by decide +kernel) (by decide +kernel)
theorem la_0_2 : u_lay RX0 TX0 2 ∈ TB := tb_1 182 (by decide +kernel) (by decide +kernel)
theorem la_0_3 : u_lay RX0 TX0 3 ∈ TB := tb_1 184 (by decide +kernel) (by decide +kernel)
theorem la_0_4 : u_lay RX0 TX0 4 ∈ TB := tb_1 186 (by decide +kernel) (by decide +kernel)
theorem inX0 : ∀ w ∈ wsX00, w ∈ TB := by
  intro w hw
  obtain ⟨k, hk, rfl⟩ := List.mem_map.mp hw
  match k, List.mem_range.mp hk with
  | 0, _ => exact la_0_0
  | 1, _ => exact la_0_1
  | 2, _ => exact la_0_2
  | 3, _ => exact la_0_3
  | 4, _ => exact la_0_4
  | n + 5, h => omega
theorem gf_0_0 {x : XC} {g : XG} {y0 : XM} {M : Mem} {pc : Nat} {L : List (Nat × Value)} {S : List Value} {idx : Nat} (F : XF x g y0) (d : decode (xmB y0) pc = .ok (.getfield idx, 3)) (hw : Cond.fieldLink (xmN y0).cls idx "ButterChurn$Best" "there" "Z" ∈ TB) (k9 : EX x g (xmL y0) M (pc + 3) L (.int (M 18 0) :: S)) : EX x g (xmL y0) M pc L (.ref (ad g 18) :: S) := ex_getf F d inX0 ob_0 rfl (j := 0) (by decide) hw rfl k9
theorem pf_0_0 {x : XC} {g : XG} {y0 : XM} {M : Mem} {pc : Nat} {L : List (Nat × Value)} {S : List Value} {idx : Nat} {v : Int32} (F : XF x g y0) (d : decode (xmB y0) pc = .ok (.putfield idx, 3)) (hw : Cond.fieldLink (xmN y0).cls idx "ButterChurn$Best" "there" "Z" ∈ TB) (hz : v = 0 ∨ v = 1) (k9 : EX x g (xmL y0) (mu M 18 0 v) (pc + 3) L S) : EX x g (xmL y0) M pc L (.int v :: .ref (ad g 18) :: S) := ex_putf F d inX0 tyX0 tyX0_ok nmX0 ob_0 rfl (j := 0) (by decide) hw rfl (ty := .boolean) (by decide +kernel) (by rcases hz with rfl | rfl <;> rfl) (by rcases hz with rfl | rfl <;> rfl) (Nat.le_of_ble_eq_true rfl) os_0_0 k9
theorem gf_0_1 {x : XC} {g : XG} {y0 : XM} {M : Mem} {pc : Nat} {L : List (Nat × Value)} {S : List Value} {idx : Nat} (F : XF x g y0) (d : decode (xmB y0) pc = .ok (.getfield idx, 3)) (hw : Cond.fieldLink (xmN y0).cls idx "ButterChurn$Best" "warmth" "I" ∈ TB) (k9 : EX x g (xmL y0) M (pc + 3) L (.int (M 18 1) :: S)) : EX x g (xmL y0) M pc L (.ref (ad g 18) :: S) := ex_getf F d inX0 ob_0 rfl (j := 1) (by decide) hw rfl k9
theorem pf_0_1 {x : XC} {g : XG} {y0 : XM} {M : Mem} {pc : Nat} {L : List (Nat × Value)} {S : List Value} {idx : Nat} {v : Int32} (F : XF x g y0) (d : decode (xmB y0) pc = .ok (.putfield idx, 3)) (hw : Cond.fieldLink (xmN y0).cls idx "ButterChurn$Best" "warmth" "I" ∈ TB) (k9 : EX x g (xmL y0) (mu M 18 1 v) (pc + 3) L S) : EX x g (xmL y0) M pc L (.int v :: .ref (ad g 18) :: S) := ex_putf F d inX0 tyX0 tyX0_ok nmX0 ob_0 rfl (j := 1) (by decide) hw rfl (ty := .int) (by decide +kernel) rfl rfl (Nat.le_of_ble_eq_true rfl) os_0_1 k9
theorem gf_0_2 {x : XC} {g : XG} {y0 : XM} {M : Mem} {pc : Nat} {L : List (Nat × Value)} {S : List Value} {idx : Nat} (F : XF x g y0) (d : decode (xmB y0) pc = .ok (.getfield idx, 3)) (hw : Cond.fieldLink (xmN y0).cls idx "ButterChurn$Best" "pace" "I" ∈ TB) (k9 : EX x g (xmL y0) M (pc + 3) L (.int (M 18 2) :: S)) : EX x g (xmL y0) M pc L (.ref (ad g 18) :: S) := ex_getf F d inX0 ob_0 rfl (j := 2) (by decide) hw rfl k9
theorem pf_0_2 {x : XC} {g : XG} {y0 : XM} {M : Mem} {pc : Nat} {L : List (Nat × Value)} {S : List Value} {idx : Nat} {v : Int32} (F : XF x g y0) (d : decode (xmB y0) pc = .ok (.putfield idx, 3)) (hw : Cond.fieldLink (xmN y0).cls idx "ButterChurn$Best" "pace" "I" ∈ TB) (k9 : EX x g (xmL y0) (mu M 18 2 v) (pc + 3) L S) : EX x g (xmL y0) M pc L (.int v :: .ref (ad g 18) :: S) := ex_putf F d inX0 tyX0 tyX0_ok nmX0 ob_0 rfl (j := 2) (by decide) hw rfl (ty := .int) (by decide +kernel) rfl rfl (Nat.le_of_ble_eq_true rfl) os_0_2 k9
theorem gf_0_3 {x : XC} {g : XG} {y0 : XM} {M : Mem} {pc : Nat} {L : List (Nat × Value)} {S : List Value} {idx : Nat} (F : XF x g y0) (d : decode (xmB y0) pc = .ok (.getfield idx, 3)) (hw : Cond.fieldLink (xmN y0).cls idx "ButterChurn$Best" "turns" "I" ∈ TB) (k9 : EX x g (xmL y0) M (pc + 3) L (.int (M 18 3) :: S)) : EX x g (xmL y0) M pc L (.ref (ad g 18) :: S) := ex_getf F d inX0 ob_0 rfl (j := 3) (by decide) hw rfl k9
theorem pf_0_3 {x : XC} {g : XG} {y0 : XM} {M : Mem} {pc : Nat} {L : List (Nat × Value)} {S : List Value} {idx : Nat} {v : Int32} (F : XF x g y0) (d : decode (xmB y0) pc = .ok (.putfield idx, 3)) (hw : Cond.fieldLink (xmN y0).cls idx "ButterChurn$Best" "turns" "I" ∈ TB) (k9 : EX x g (xmL y0) (mu M 18 3 v) (pc + 3) L S) : EX x g (xmL y0) M pc L (.int v :: .ref (ad g 18) :: S) := ex_putf F d inX0 tyX0 tyX0_ok nmX0 ob_0 rfl (j := 3) (by decide) hw rfl (ty := .int) (by decide +kernel) rfl rfl (Nat.le_of_ble_eq_true rfl) os_0_3 k9
theorem gf_0_4 {x : XC} {g : XG} {y0 : XM} {M : Mem} {pc : Nat} {L : List (Nat × Value)} {S : List Value} {idx : Nat} (F : XF x g y0) (d : decode (xmB y0) pc = .ok (.getfield idx, 3)) (hw : Cond.fieldLink (xmN y0).cls idx "ButterChurn$Best" "left" "I" ∈ TB) (k9 : EX x g (xmL y0) M (pc + 3) L (.int (M 18 4) :: S)) : EX x g (xmL y0) M pc L (.ref (ad g 18) :: S) := ex_getf F d inX0 ob_0 rfl (j := 4) (by decide) hw rfl k9
theorem pf_0_4 {x : XC} {g : XG} {y0 : XM} {M : Mem} {pc : Nat} {L : List (Nat × Value)} {S : List Value} {idx : Nat} {v : Int32} (F : XF x g y0) (d : decode (xmB y0) pc = .ok (.putfield idx, 3)) (hw : Cond.fieldLink (xmN y0).cls idx "ButterChurn$Best" "left" "I" ∈ TB) (k9 : EX x g (xmL y0) (mu M 18 4 v) (pc + 3) L S) : EX x g (xmL y0) M pc L (.int v :: .ref (ad g 18) :: S) := ex_putf F d inX0 tyX0 tyX0_ok nmX0 ob_0 rfl (j := 4) (by decide) hw rfl (ty := .int) (by decide +kernel) rfl rfl (Nat.le_of_ble_eq_true rfl) os_0_4 k9
theorem la_1_0 : u_lay RX1 TX1 0 ∈ TB := tb_1 151 (by decide +kernel) (by decide +kernel)
theorem la_1_1 : u_lay RX1 TX1 1 ∈ TB := tb_1 153 (by decide +kernel) (by decide +kernel)
theorem la_1_2 : u_lay RX1 TX1 2 ∈ TB := tb_1 155 (by decide +kernel) (by decide +kernel)
theorem la_1_3 : u_lay RX1 TX1 3 ∈ TB := tb_1 157 (by decide +kernel) (by decide +kernel)
theorem la_1_4 : u_lay RX1 TX1 4 ∈ TB := tb_1 159 (by decide +kernel) (by decide +kernel)
theorem la_1_5 : u_lay RX1 TX1 5 ∈ TB := tb_1 161 (by decide +kernel) (by decide +kernel)
theorem la_1_6 : u_lay RX1 TX1 6 ∈ TB := tb_1 163 (by decide +kernel) (by decide +kernel)
theorem inX1 : ∀ w ∈ wsX10, w ∈ TB := by
  intro w hw
  obtain ⟨k, hk, rfl⟩ := List.mem_map.mp hw
  match k, List.mem_range.mp hk with
  | 0, _ => exact la_1_0
  | 1, _ => exact la_1_1
  | 2, _ => exact la_1_2
  | 3, _ => exact la_1_3
  | 4, _ => exact la_1_4
  | 5, _ => exact la_1_5
  | 6, _ => exact la_1_6
  | n + 7, h => omega
theorem gf_1_0 {x : XC} {g : XG} {y0 : XM} {M : Mem} {pc : Nat} {L : List (Nat × Value)} {S : List Value} {idx : Nat} {k : Nat} (h : isO 1 k) {q9 : Nat} (hq : k + 1 = q9) (F : XF x g y0) (d : decode (xmB y0) pc = .ok (.getfield idx, 3)) (hw : Cond.fieldLink (xmN y0).cls idx "ButterChurn$Churn" "drops" "[I" ∈ TB) (k9 : EX x g (xmL y0) M (pc + 3) L (.ref (ad g q9) :: S)) : EX x g (xmL y0) M pc L (.ref (ad g k) :: S) := ex_getf F d inX1 (ob_1 h) rfl (j := 0) (by decide) hw (by subst hq; rfl) k9
theorem gf_1_1 {x : XC} {g : XG} {y0 : XM} {M : Mem} {pc : Nat} {L : List (Nat × Value)} {S : List Value} {idx : Nat} {k : Nat} (h : isO 1 k) (F : XF x g y0) (d : decode (xmB y0) pc = .ok (.getfield idx, 3)) (hw : Cond.fieldLink (xmN y0).cls idx "ButterChurn$Churn" "litres" "I" ∈ TB) (k9 : EX x g (xmL y0) M (pc + 3) L (.int (M k 1) :: S)) : EX x g (xmL y0) M pc L (.ref (ad g k) :: S) := ex_getf F d inX1 (ob_1 h) rfl (j := 1) (by decide) hw rfl k9
theorem pf_1_1 {x : XC} {g : XG} {y0 : XM} {M : Mem} {pc : Nat} {L : List (Nat × Value)} {S : List Value} {idx : Nat} {v : Int32} {k : Nat} (h : isO 1 k) (F : XF x g y0) (d : decode (xmB y0) pc = .ok (.putfield idx, 3)) (hw : Cond.fieldLink (xmN y0).cls idx "ButterChurn$Churn" "litres" "I" ∈ TB) (k9 : EX x g (xmL y0) (mu M k 1 v) (pc + 3) L S) : EX x g (xmL y0) M pc L (.int v :: .ref (ad g k) :: S) := ex_putf F d inX1 tyX1 tyX1_ok nmX1 (ob_1 h) rfl (j := 1) (by decide) hw rfl (ty := .int) (by decide +kernel) rfl rfl (Nat.le_of_ble_eq_true rfl) (os_1_1 h) k9
theorem gf_1_2 {x : XC} {g : XG} {y0 : XM} {M : Mem} {pc : Nat} {L : List (Nat × Value)} {S : List Value} {idx : Nat} {k : Nat} (h : isO 1 k) (F : XF x g y0) (d : decode (xmB y0) pc = .ok (.getfield idx, 3)) (hw : Cond.fieldLink (xmN y0).cls idx "ButterChurn$Churn" "warmth" "I" ∈ TB) (k9 : EX x g (xmL y0) M (pc + 3) L (.int (M k 2) :: S)) : EX x g (xmL y0) M pc L (.ref (ad g k) :: S) := ex_getf F d inX1 (ob_1 h) rfl (j := 2) (by decide) hw rfl k9
theorem pf_1_2 {x : XC} {g : XG} {y0 : XM} {M : Mem} {pc : Nat} {L : List (Nat × Value)} {S : List Value} {idx : Nat} {v : Int32} {k : Nat} (h : isO 1 k) (F : XF x g y0) (d : decode (xmB y0) pc = .ok (.putfield idx, 3)) (hw : Cond.fieldLink (xmN y0).cls idx "ButterChurn$Churn" "warmth" "I" ∈ TB) (k9 : EX x g (xmL y0) (mu M k 2 v) (pc + 3) L S) : EX x g (xmL y0) M pc L (.int v :: .ref (ad g k) :: S) := ex_putf F d inX1 tyX1 tyX1_ok nmX1 (ob_1 h) rfl (j := 2) (by decide) hw rfl (ty := .int) (by decide +kernel) rfl rfl (Nat.le_of_ble_eq_true rfl) (os_1_2 h) k9
theorem gf_1_3 {x : XC} {g : XG} {y0 : XM} {M : Mem} {pc : Nat} {L : List (Nat × Value)} {S : List Value} {idx : Nat} {k : Nat} (h : isO 1 k) (F : XF x g y0) (d : decode (xmB y0) pc = .ok (.getfield idx, 3)) (hw : Cond.fieldLink (xmN y0).cls idx "ButterChurn$Churn" "hard" "I" ∈ TB) (k9 : EX x g (xmL y0) M (pc + 3) L (.int (M k 3) :: S)) : EX x g (xmL y0) M pc L (.ref (ad g k) :: S) := ex_getf F d inX1 (ob_1 h) rfl (j := 3) (by decide) hw rfl k9
theorem pf_1_3 {x : XC} {g : XG} {y0 : XM} {M : Mem} {pc : Nat} {L : List (Nat × Value)} {S : List Value} {idx : Nat} {v : Int32} {k : Nat} (h : isO 1 k) (F : XF x g y0) (d : decode (xmB y0) pc = .ok (.putfield idx, 3)) (hw : Cond.fieldLink (xmN y0).cls idx "ButterChurn$Churn" "hard" "I" ∈ TB) (k9 : EX x g (xmL y0) (mu M k 3 v) (pc + 3) L S) : EX x g (xmL y0) M pc L (.int v :: .ref (ad g k) :: S) := ex_putf F d inX1 tyX1 tyX1_ok nmX1 (ob_1 h) rfl (j := 3) (by decide) hw rfl (ty := .int) (by decide +kernel) rfl rfl (Nat.le_of_ble_eq_true rfl) (os_1_3 h) k9
theorem gf_1_4 {x : XC} {g : XG} {y0 : XM} {M : Mem} {pc : Nat} {L : List (Nat × Value)} {S : List Value} {idx : Nat} {k : Nat} (h : isO 1 k) (F : XF x g y0) (d : decode (xmB y0) pc = .ok (.getfield idx, 3)) (hw : Cond.fieldLink (xmN y0).cls idx "ButterChurn$Churn" "air" "I" ∈ TB) (k9 : EX x g (xmL y0) M (pc + 3) L (.int (M k 4) :: S)) : EX x g (xmL y0) M pc L (.ref (ad g k) :: S) := ex_getf F d inX1 (ob_1 h) rfl (j := 4) (by decide) hw rfl k9
theorem pf_1_4 {x : XC} {g : XG} {y0 : XM} {M : Mem} {pc : Nat} {L : List (Nat × Value)} {S : List Value} {idx : Nat} {v : Int32} {k : Nat} (h : isO 1 k) (F : XF x g y0) (d : decode (xmB y0) pc = .ok (.putfield idx, 3)) (hw : Cond.fieldLink (xmN y0).cls idx "ButterChurn$Churn" "air" "I" ∈ TB) (k9 : EX x g (xmL y0) (mu M k 4 v) (pc + 3) L S) : EX x g (xmL y0) M pc L (.int v :: .ref (ad g k) :: S) := ex_putf F d inX1 tyX1 tyX1_ok nmX1 (ob_1 h) rfl (j := 4) (by decide) hw rfl (ty := .int) (by decide +kernel) rfl rfl (Nat.le_of_ble_eq_true rfl) (os_1_4 h) k9
theorem gf_1_5 {x : XC} {g : XG} {y0 : XM} {M : Mem} {pc : Nat} {L : List (Nat × Value)} {S : List Value} {idx : Nat} {k : Nat} (h : isO 1 k) (F : XF x g y0) (d : decode (xmB y0) pc = .ok (.getfield idx, 3)) (hw : Cond.fieldLink (xmN y0).cls idx "ButterChurn$Churn" "turns" "I" ∈ TB) (k9 : EX x g (xmL y0) M (pc + 3) L (.int (M k 5) :: S)) : EX x g (xmL y0) M pc L (.ref (ad g k) :: S) := ex_getf F d inX1 (ob_1 h) rfl (j := 5) (by decide) hw rfl k9
theorem pf_1_5 {x : XC} {g : XG} {y0 : XM} {M : Mem} {pc : Nat} {L : List (Nat × Value)} {S : List Value} {idx : Nat} {v : Int32} {k : Nat} (h : isO 1 k) (F : XF x g y0) (d : decode (xmB y0) pc = .ok (.putfield idx, 3)) (hw : Cond.fieldLink (xmN y0).cls idx "ButterChurn$Churn" "turns" "I" ∈ TB) (k9 : EX x g (xmL y0) (mu M k 5 v) (pc + 3) L S) : EX x g (xmL y0) M pc L (.int v :: .ref (ad g k) :: S) := ex_putf F d inX1 tyX1 tyX1_ok nmX1 (ob_1 h) rfl (j := 5) (by decide) hw rfl (ty := .int) (by decide +kernel) rfl rfl (Nat.le_of_ble_eq_true rfl) (os_1_5 h) k9
theorem gf_1_6 {x : XC} {g : XG} {y0 : XM} {M : Mem} {pc : Nat} {L : List (Nat × Value)} {S : List Value} {idx : Nat} {k : Nat} (h : isO 1 k) (F : XF x g y0) (d : decode (xmB y0) pc = .ok (.getfield idx, 3)) (hw : Cond.fieldLink (xmN y0).cls idx "ButterChurn$Churn" "come" "I" ∈ TB) (k9 : EX x g (xmL y0) M (pc + 3) L (.int (M k 6) :: S)) : EX x g (xmL y0) M pc L (.ref (ad g k) :: S) := ex_getf F d inX1 (ob_1 h) rfl (j := 6) (by decide) hw rfl k9
theorem pf_1_6 {x : XC} {g : XG} {y0 : XM} {M : Mem} {pc : Nat} {L : List (Nat × Value)} {S : List Value} {idx : Nat} {v : Int32} {k : Nat} (h : isO 1 k) (F : XF x g y0) (d : decode (xmB y0) pc = .ok (.putfield idx, 3)) (hw : Cond.fieldLink (xmN y0).cls idx "ButterChurn$Churn" "come" "I" ∈ TB) (k9 : EX x g (xmL y0) (mu M k 6 v) (pc + 3) L S) : EX x g (xmL y0) M pc L (.int v :: .ref (ad g k) :: S) := ex_putf F d inX1 tyX1 tyX1_ok nmX1 (ob_1 h) rfl (j := 6) (by decide) hw rfl (ty := .int) (by decide +kernel) rfl rfl (Nat.le_of_ble_eq_true rfl) (os_1_6 h) k9
theorem la_2_0 : u_lay RX2 TX2 0 ∈ TB := tb_1 201 (by decide +kernel) (by decide +kernel)
theorem la_2_1 : u_lay RX2 TX2 1 ∈ TB := tb_1 203 (by decide +kernel) (by decide +kernel)
theorem inX2 : ∀ w ∈ wsX20, w ∈ TB := by
  intro w hw
  obtain ⟨k, hk, rfl⟩ := List.mem_map.mp hw
  match k, List.mem_range.mp hk with
  | 0, _ => exact la_2_0
  | 1, _ => exact la_2_1
  | n + 2, h => omega
theorem gf_2_0 {x : XC} {g : XG} {y0 : XM} {M : Mem} {pc : Nat} {L : List (Nat × Value)} {S : List Value} {idx : Nat} {k : Nat} (h : isO 2 k) {q9 : Nat} (hq : k + 1 = q9) (F : XF x g y0) (d : decode (xmB y0) pc = .ok (.getfield idx, 3)) (hw : Cond.fieldLink (xmN y0).cls idx "ButterChurn$Image" "churn" "LButterChurn$Churn;" ∈ TB) (k9 : EX x g (xmL y0) M (pc + 3) L (.ref (ad g q9) :: S)) : EX x g (xmL y0) M pc L (.ref (ad g k) :: S) := ex_getf F d inX2 (ob_2 h) rfl (j := 0) (by decide) hw (by subst hq; rfl) k9
theorem gf_2_1 {x : XC} {g : XG} {y0 : XM} {M : Mem} {pc : Nat} {L : List (Nat × Value)} {S : List Value} {idx : Nat} {k : Nat} (h : isO 2 k) (F : XF x g y0) (d : decode (xmB y0) pc = .ok (.getfield idx, 3)) (hw : Cond.fieldLink (xmN y0).cls idx "ButterChurn$Image" "there" "Z" ∈ TB) (k9 : EX x g (xmL y0) M (pc + 3) L (.int (M k 1) :: S)) : EX x g (xmL y0) M pc L (.ref (ad g k) :: S) := ex_getf F d inX2 (ob_2 h) rfl (j := 1) (by decide) hw rfl k9
theorem pf_2_1 {x : XC} {g : XG} {y0 : XM} {M : Mem} {pc : Nat} {L : List (Nat × Value)} {S : List Value} {idx : Nat} {v : Int32} {k : Nat} (h : isO 2 k) (F : XF x g y0) (d : decode (xmB y0) pc = .ok (.putfield idx, 3)) (hw : Cond.fieldLink (xmN y0).cls idx "ButterChurn$Image" "there" "Z" ∈ TB) (hz : v = 0 ∨ v = 1) (k9 : EX x g (xmL y0) (mu M k 1 v) (pc + 3) L S) : EX x g (xmL y0) M pc L (.int v :: .ref (ad g k) :: S) := ex_putf F d inX2 tyX2 tyX2_ok nmX2 (ob_2 h) rfl (j := 1) (by decide) hw rfl (ty := .boolean) (by decide +kernel) (by rcases hz with rfl | rfl <;> rfl) (by rcases hz with rfl | rfl <;> rfl) (Nat.le_of_ble_eq_true rfl) (os_2_1 h) k9
theorem la_3_0 : u_lay RX3 TX3 0 ∈ TB := tb_1 118 (by decide +kernel) (by decide +kernel)
theorem la_3_1 : u_lay RX3 TX3 1 ∈ TB := tb_1 120 (by decide +kernel) (by decide +kernel)
theorem la_3_2 : u_lay RX3 TX3 2 ∈ TB := tb_1 122 (by decide +kernel) (by decide +kernel)
theorem la_3_3 : u_lay RX3 TX3 3 ∈ TB := tb_1 124 (by decide +kernel) (by decide +kernel)
theorem la_3_4 : u_lay RX3 TX3 4 ∈ TB := tb_1 126 (by decide +kernel) (by decide +kernel)
theorem la_3_5 : u_lay RX3 TX3 5 ∈ TB := tb_1 128 (by decide +kernel) (by decide +kernel)
theorem la_3_6 : u_lay RX3 TX3 6 ∈ TB := tb_1 130 (by decide +kernel) (by decide +kernel)
theorem la_3_7 : u_lay RX3 TX3 7 ∈ TB := tb_1 132 (by decide +kernel) (by decide +kernel)
theorem inX3 : ∀ w ∈ wsX30, w ∈ TB := by
  intro w hw
  obtain ⟨k, hk, rfl⟩ := List.mem_map.mp hw
  match k, List.mem_range.mp hk with
  | 0, _ => exact la_3_0
  | 1, _ => exact la_3_1
  | 2, _ => exact la_3_2
  | 3, _ => exact la_3_3
  | 4, _ => exact la_3_4
  | 5, _ => exact la_3_5
  | 6, _ => exact la_3_6
  | 7, _ => exact la_3_7
  | n + 8, h => omega
theorem gf_3_0 {x : XC} {g : XG} {y0 : XM} {M : Mem} {pc : Nat} {L : List (Nat × Value)} {S : List Value} {idx : Nat} (F : XF x g y0) (d : decode (xmB y0) pc = .ok (.getfield idx, 3)) (hw : Cond.fieldLink (xmN y0).cls idx "ButterChurn$Reading" "tape" "LButterChurn$Tape;" ∈ TB) (k9 : EX x g (xmL y0) M (pc + 3) L (.ref (ad g 7) :: S)) : EX x g (xmL y0) M pc L (.ref (ad g 6) :: S) := ex_getf F d inX3 ob_3 rfl (j := 0) (by decide) hw rfl k9
theorem gf_3_1 {x : XC} {g : XG} {y0 : XM} {M : Mem} {pc : Nat} {L : List (Nat × Value)} {S : List Value} {idx : Nat} (F : XF x g y0) (d : decode (xmB y0) pc = .ok (.getfield idx, 3)) (hw : Cond.fieldLink (xmN y0).cls idx "ButterChurn$Reading" "draft" "LButterChurn$Told;" ∈ TB) (k9 : EX x g (xmL y0) M (pc + 3) L (.ref (ad g 9) :: S)) : EX x g (xmL y0) M pc L (.ref (ad g 6) :: S) := ex_getf F d inX3 ob_3 rfl (j := 1) (by decide) hw rfl k9
theorem gf_3_2 {x : XC} {g : XG} {y0 : XM} {M : Mem} {pc : Nat} {L : List (Nat × Value)} {S : List Value} {idx : Nat} (F : XF x g y0) (d : decode (xmB y0) pc = .ok (.getfield idx, 3)) (hw : Cond.fieldLink (xmN y0).cls idx "ButterChurn$Reading" "line" "I" ∈ TB) (k9 : EX x g (xmL y0) M (pc + 3) L (.int (M 6 2) :: S)) : EX x g (xmL y0) M pc L (.ref (ad g 6) :: S) := ex_getf F d inX3 ob_3 rfl (j := 2) (by decide) hw rfl k9
theorem pf_3_2 {x : XC} {g : XG} {y0 : XM} {M : Mem} {pc : Nat} {L : List (Nat × Value)} {S : List Value} {idx : Nat} {v : Int32} (F : XF x g y0) (d : decode (xmB y0) pc = .ok (.putfield idx, 3)) (hw : Cond.fieldLink (xmN y0).cls idx "ButterChurn$Reading" "line" "I" ∈ TB) (k9 : EX x g (xmL y0) (mu M 6 2 v) (pc + 3) L S) : EX x g (xmL y0) M pc L (.int v :: .ref (ad g 6) :: S) := ex_putf F d inX3 tyX3 tyX3_ok nmX3 ob_3 rfl (j := 2) (by decide) hw rfl (ty := .int) (by decide +kernel) rfl rfl (Nat.le_of_ble_eq_true rfl) os_3_2 k9
theorem gf_3_3 {x : XC} {g : XG} {y0 : XM} {M : Mem} {pc : Nat} {L : List (Nat × Value)} {S : List Value} {idx : Nat} (F : XF x g y0) (d : decode (xmB y0) pc = .ok (.getfield idx, 3)) (hw : Cond.fieldLink (xmN y0).cls idx "ButterChurn$Reading" "numbersRead" "I" ∈ TB) (k9 : EX x g (xmL y0) M (pc + 3) L (.int (M 6 3) :: S)) : EX x g (xmL y0) M pc L (.ref (ad g 6) :: S) := ex_getf F d inX3 ob_3 rfl (j := 3) (by decide) hw rfl k9
theorem pf_3_3 {x : XC} {g : XG} {y0 : XM} {M : Mem} {pc : Nat} {L : List (Nat × Value)} {S : List Value} {idx : Nat} {v : Int32} (F : XF x g y0) (d : decode (xmB y0) pc = .ok (.putfield idx, 3)) (hw : Cond.fieldLink (xmN y0).cls idx "ButterChurn$Reading" "numbersRead" "I" ∈ TB) (k9 : EX x g (xmL y0) (mu M 6 3 v) (pc + 3) L S) : EX x g (xmL y0) M pc L (.int v :: .ref (ad g 6) :: S) := ex_putf F d inX3 tyX3 tyX3_ok nmX3 ob_3 rfl (j := 3) (by decide) hw rfl (ty := .int) (by decide +kernel) rfl rfl (Nat.le_of_ble_eq_true rfl) os_3_3 k9
theorem gf_3_4 {x : XC} {g : XG} {y0 : XM} {M : Mem} {pc : Nat} {L : List (Nat × Value)} {S : List Value} {idx : Nat} (F : XF x g y0) (d : decode (xmB y0) pc = .ok (.getfield idx, 3)) (hw : Cond.fieldLink (xmN y0).cls idx "ButterChurn$Reading" "linesRead" "I" ∈ TB) (k9 : EX x g (xmL y0) M (pc + 3) L (.int (M 6 4) :: S)) : EX x g (xmL y0) M pc L (.ref (ad g 6) :: S) := ex_getf F d inX3 ob_3 rfl (j := 4) (by decide) hw rfl k9
theorem pf_3_4 {x : XC} {g : XG} {y0 : XM} {M : Mem} {pc : Nat} {L : List (Nat × Value)} {S : List Value} {idx : Nat} {v : Int32} (F : XF x g y0) (d : decode (xmB y0) pc = .ok (.putfield idx, 3)) (hw : Cond.fieldLink (xmN y0).cls idx "ButterChurn$Reading" "linesRead" "I" ∈ TB) (k9 : EX x g (xmL y0) (mu M 6 4 v) (pc + 3) L S) : EX x g (xmL y0) M pc L (.int v :: .ref (ad g 6) :: S) := ex_putf F d inX3 tyX3 tyX3_ok nmX3 ob_3 rfl (j := 4) (by decide) hw rfl (ty := .int) (by decide +kernel) rfl rfl (Nat.le_of_ble_eq_true rfl) os_3_4 k9
theorem gf_3_5 {x : XC} {g : XG} {y0 : XM} {M : Mem} {pc : Nat} {L : List (Nat × Value)} {S : List Value} {idx : Nat} (F : XF x g y0) (d : decode (xmB y0) pc = .ok (.getfield idx, 3)) (hw : Cond.fieldLink (xmN y0).cls idx "ButterChurn$Reading" "linesMet" "I" ∈ TB) (k9 : EX x g (xmL y0) M (pc + 3) L (.int (M 6 5) :: S)) : EX x g (xmL y0) M pc L (.ref (ad g 6) :: S) := ex_getf F d inX3 ob_3 rfl (j := 5) (by decide) hw rfl k9
theorem pf_3_5 {x : XC} {g : XG} {y0 : XM} {M : Mem} {pc : Nat} {L : List (Nat × Value)} {S : List Value} {idx : Nat} {v : Int32} (F : XF x g y0) (d : decode (xmB y0) pc = .ok (.putfield idx, 3)) (hw : Cond.fieldLink (xmN y0).cls idx "ButterChurn$Reading" "linesMet" "I" ∈ TB) (k9 : EX x g (xmL y0) (mu M 6 5 v) (pc + 3) L S) : EX x g (xmL y0) M pc L (.int v :: .ref (ad g 6) :: S) := ex_putf F d inX3 tyX3 tyX3_ok nmX3 ob_3 rfl (j := 5) (by decide) hw rfl (ty := .int) (by decide +kernel) rfl rfl (Nat.le_of_ble_eq_true rfl) os_3_5 k9
theorem gf_3_6 {x : XC} {g : XG} {y0 : XM} {M : Mem} {pc : Nat} {L : List (Nat × Value)} {S : List Value} {idx : Nat} (F : XF x g y0) (d : decode (xmB y0) pc = .ok (.getfield idx, 3)) (hw : Cond.fieldLink (xmN y0).cls idx "ButterChurn$Reading" "fault" "I" ∈ TB) (k9 : EX x g (xmL y0) M (pc + 3) L (.int (M 6 6) :: S)) : EX x g (xmL y0) M pc L (.ref (ad g 6) :: S) := ex_getf F d inX3 ob_3 rfl (j := 6) (by decide) hw rfl k9
theorem pf_3_6 {x : XC} {g : XG} {y0 : XM} {M : Mem} {pc : Nat} {L : List (Nat × Value)} {S : List Value} {idx : Nat} {v : Int32} (F : XF x g y0) (d : decode (xmB y0) pc = .ok (.putfield idx, 3)) (hw : Cond.fieldLink (xmN y0).cls idx "ButterChurn$Reading" "fault" "I" ∈ TB) (k9 : EX x g (xmL y0) (mu M 6 6 v) (pc + 3) L S) : EX x g (xmL y0) M pc L (.int v :: .ref (ad g 6) :: S) := ex_putf F d inX3 tyX3 tyX3_ok nmX3 ob_3 rfl (j := 6) (by decide) hw rfl (ty := .int) (by decide +kernel) rfl rfl (Nat.le_of_ble_eq_true rfl) os_3_6 k9
theorem gf_3_7 {x : XC} {g : XG} {y0 : XM} {M : Mem} {pc : Nat} {L : List (Nat × Value)} {S : List Value} {idx : Nat} (F : XF x g y0) (d : decode (xmB y0) pc = .ok (.getfield idx, 3)) (hw : Cond.fieldLink (xmN y0).cls idx "ButterChurn$Reading" "faultPlace" "I" ∈ TB) (k9 : EX x g (xmL y0) M (pc + 3) L (.int (M 6 7) :: S)) : EX x g (xmL y0) M pc L (.ref (ad g 6) :: S) := ex_getf F d inX3 ob_3 rfl (j := 7) (by decide) hw rfl k9
theorem pf_3_7 {x : XC} {g : XG} {y0 : XM} {M : Mem} {pc : Nat} {L : List (Nat × Value)} {S : List Value} {idx : Nat} {v : Int32} (F : XF x g y0) (d : decode (xmB y0) pc = .ok (.putfield idx, 3)) (hw : Cond.fieldLink (xmN y0).cls idx "ButterChurn$Reading" "faultPlace" "I" ∈ TB) (k9 : EX x g (xmL y0) (mu M 6 7 v) (pc + 3) L S) : EX x g (xmL y0) M pc L (.int v :: .ref (ad g 6) :: S) := ex_putf F d inX3 tyX3 tyX3_ok nmX3 ob_3 rfl (j := 7) (by decide) hw rfl (ty := .int) (by decide +kernel) rfl rfl (Nat.le_of_ble_eq_true rfl) os_3_7 k9
theorem la_4_0 : u_lay RX4 TX4 0 ∈ TB := tb_1 217 (by decide +kernel) (by decide +kernel)
theorem la_4_1 : u_lay RX4 TX4 1 ∈ TB := tb_1 219 (by decide +kernel) (by decide +kernel)
theorem la_4_2 : u_lay RX4 TX4 2 ∈ TB := tb_1 221 (by decide +kernel) (by decide +kernel)
theorem inX4 : ∀ w ∈ wsX40, w ∈ TB := by
  intro w hw
  obtain ⟨k, hk, rfl⟩ := List.mem_map.mp hw
  match k, List.mem_range.mp hk with
  | 0, _ => exact la_4_0
  | 1, _ => exact la_4_1
  | 2, _ => exact la_4_2
  | n + 3, h => omega
theorem gf_4_0 {x : XC} {g : XG} {y0 : XM} {M : Mem} {pc : Nat} {L : List (Nat × Value)} {S : List Value} {idx : Nat} {k : Nat} (h : isO 4 k) {q9 : Nat} (hq : k + 1 = q9) (F : XF x g y0) (d : decode (xmB y0) pc = .ok (.getfield idx, 3)) (hw : Cond.fieldLink (xmN y0).cls idx "ButterChurn$Sheet" "cells" "[I" ∈ TB) (k9 : EX x g (xmL y0) M (pc + 3) L (.ref (ad g q9) :: S)) : EX x g (xmL y0) M pc L (.ref (ad g k) :: S) := ex_getf F d inX4 (ob_4 h) rfl (j := 0) (by decide) hw (by subst hq; rfl) k9
theorem gf_4_1 {x : XC} {g : XG} {y0 : XM} {M : Mem} {pc : Nat} {L : List (Nat × Value)} {S : List Value} {idx : Nat} {k : Nat} (h : isO 4 k) (F : XF x g y0) (d : decode (xmB y0) pc = .ok (.getfield idx, 3)) (hw : Cond.fieldLink (xmN y0).cls idx "ButterChurn$Sheet" "lane" "I" ∈ TB) (k9 : EX x g (xmL y0) M (pc + 3) L (.int (M k 1) :: S)) : EX x g (xmL y0) M pc L (.ref (ad g k) :: S) := ex_getf F d inX4 (ob_4 h) rfl (j := 1) (by decide) hw rfl k9
theorem pf_4_1 {x : XC} {g : XG} {y0 : XM} {M : Mem} {pc : Nat} {L : List (Nat × Value)} {S : List Value} {idx : Nat} {v : Int32} {k : Nat} (h : isO 4 k) (F : XF x g y0) (d : decode (xmB y0) pc = .ok (.putfield idx, 3)) (hw : Cond.fieldLink (xmN y0).cls idx "ButterChurn$Sheet" "lane" "I" ∈ TB) (k9 : EX x g (xmL y0) (mu M k 1 v) (pc + 3) L S) : EX x g (xmL y0) M pc L (.int v :: .ref (ad g k) :: S) := ex_putf F d inX4 tyX4 tyX4_ok nmX4 (ob_4 h) rfl (j := 1) (by decide) hw rfl (ty := .int) (by decide +kernel) rfl rfl (Nat.le_of_ble_eq_true rfl) (os_4_1 h) k9
theorem gf_4_2 {x : XC} {g : XG} {y0 : XM} {M : Mem} {pc : Nat} {L : List (Nat × Value)} {S : List Value} {idx : Nat} {k : Nat} (h : isO 4 k) (F : XF x g y0) (d : decode (xmB y0) pc = .ok (.getfield idx, 3)) (hw : Cond.fieldLink (xmN y0).cls idx "ButterChurn$Sheet" "size" "I" ∈ TB) (k9 : EX x g (xmL y0) M (pc + 3) L (.int (M k 2) :: S)) : EX x g (xmL y0) M pc L (.ref (ad g k) :: S) := ex_getf F d inX4 (ob_4 h) rfl (j := 2) (by decide) hw rfl k9
theorem pf_4_2 {x : XC} {g : XG} {y0 : XM} {M : Mem} {pc : Nat} {L : List (Nat × Value)} {S : List Value} {idx : Nat} {v : Int32} {k : Nat} (h : isO 4 k) (F : XF x g y0) (d : decode (xmB y0) pc = .ok (.putfield idx, 3)) (hw : Cond.fieldLink (xmN y0).cls idx "ButterChurn$Sheet" "size" "I" ∈ TB) (k9 : EX x g (xmL y0) (mu M k 2 v) (pc + 3) L S) : EX x g (xmL y0) M pc L (.int v :: .ref (ad g k) :: S) := ex_putf F d inX4 tyX4 tyX4_ok nmX4 (ob_4 h) rfl (j := 2) (by decide) hw rfl (ty := .int) (by decide +kernel) rfl rfl (Nat.le_of_ble_eq_true rfl) (os_4_2 h) k9
theorem la_5_0 : u_lay RX5 TX5 0 ∈ TB := tb_1 90 (by decide +kernel) (by decide +kernel)
theorem la_5_1 : u_lay RX5 TX5 1 ∈ TB := tb_1 92 (by decide +kernel) (by decide +kernel)
theorem la_5_2 : u_lay RX5 TX5 2 ∈ TB := tb_1 94 (by decide +kernel) (by decide +kernel)
theorem la_5_3 : u_lay RX5 TX5 3 ∈ TB := tb_1 96 (by decide +kernel) (by decide +kernel)
theorem la_5_4 : u_lay RX5 TX5 4 ∈ TB := tb_1 98 (by decide +kernel) (by decide +kernel)
theorem la_5_5 : u_lay RX5 TX5 5 ∈ TB := tb_1 100 (by decide +kernel) (by decide +kernel)
theorem inX5 : ∀ w ∈ wsX50, w ∈ TB := by
  intro w hw
  obtain ⟨k, hk, rfl⟩ := List.mem_map.mp hw
  match k, List.mem_range.mp hk with
  | 0, _ => exact la_5_0
  | 1, _ => exact la_5_1
  | 2, _ => exact la_5_2
  | 3, _ => exact la_5_3
  | 4, _ => exact la_5_4
  | 5, _ => exact la_5_5
  | n + 6, h => omega
theorem gf_5_0 {x : XC} {g : XG} {y0 : XM} {M : Mem} {pc : Nat} {L : List (Nat × Value)} {S : List Value} {idx : Nat} (F : XF x g y0) (d : decode (xmB y0) pc = .ok (.getfield idx, 3)) (hw : Cond.fieldLink (xmN y0).cls idx "ButterChurn$Tape" "bytes" "[B" ∈ TB) (k9 : EX x g (xmL y0) M (pc + 3) L (.ref (ad g 8) :: S)) : EX x g (xmL y0) M pc L (.ref (ad g 7) :: S) := ex_getf F d inX5 ob_5 rfl (j := 0) (by decide) hw rfl k9
theorem gf_5_1 {x : XC} {g : XG} {y0 : XM} {M : Mem} {pc : Nat} {L : List (Nat × Value)} {S : List Value} {idx : Nat} (F : XF x g y0) (d : decode (xmB y0) pc = .ok (.getfield idx, 3)) (hw : Cond.fieldLink (xmN y0).cls idx "ButterChurn$Tape" "length" "I" ∈ TB) (k9 : EX x g (xmL y0) M (pc + 3) L (.int (M 7 1) :: S)) : EX x g (xmL y0) M pc L (.ref (ad g 7) :: S) := ex_getf F d inX5 ob_5 rfl (j := 1) (by decide) hw rfl k9
theorem pf_5_1 {x : XC} {g : XG} {y0 : XM} {M : Mem} {pc : Nat} {L : List (Nat × Value)} {S : List Value} {idx : Nat} {v : Int32} (F : XF x g y0) (d : decode (xmB y0) pc = .ok (.putfield idx, 3)) (hw : Cond.fieldLink (xmN y0).cls idx "ButterChurn$Tape" "length" "I" ∈ TB) (k9 : EX x g (xmL y0) (mu M 7 1 v) (pc + 3) L S) : EX x g (xmL y0) M pc L (.int v :: .ref (ad g 7) :: S) := ex_putf F d inX5 tyX5 tyX5_ok nmX5 ob_5 rfl (j := 1) (by decide) hw rfl (ty := .int) (by decide +kernel) rfl rfl (Nat.le_of_ble_eq_true rfl) os_5_1 k9
theorem gf_5_2 {x : XC} {g : XG} {y0 : XM} {M : Mem} {pc : Nat} {L : List (Nat × Value)} {S : List Value} {idx : Nat} (F : XF x g y0) (d : decode (xmB y0) pc = .ok (.getfield idx, 3)) (hw : Cond.fieldLink (xmN y0).cls idx "ButterChurn$Tape" "kind" "I" ∈ TB) (k9 : EX x g (xmL y0) M (pc + 3) L (.int (M 7 2) :: S)) : EX x g (xmL y0) M pc L (.ref (ad g 7) :: S) := ex_getf F d inX5 ob_5 rfl (j := 2) (by decide) hw rfl k9
theorem pf_5_2 {x : XC} {g : XG} {y0 : XM} {M : Mem} {pc : Nat} {L : List (Nat × Value)} {S : List Value} {idx : Nat} {v : Int32} (F : XF x g y0) (d : decode (xmB y0) pc = .ok (.putfield idx, 3)) (hw : Cond.fieldLink (xmN y0).cls idx "ButterChurn$Tape" "kind" "I" ∈ TB) (k9 : EX x g (xmL y0) (mu M 7 2 v) (pc + 3) L S) : EX x g (xmL y0) M pc L (.int v :: .ref (ad g 7) :: S) := ex_putf F d inX5 tyX5 tyX5_ok nmX5 ob_5 rfl (j := 2) (by decide) hw rfl (ty := .int) (by decide +kernel) rfl rfl (Nat.le_of_ble_eq_true rfl) os_5_2 k9
theorem gf_5_3 {x : XC} {g : XG} {y0 : XM} {M : Mem} {pc : Nat} {L : List (Nat × Value)} {S : List Value} {idx : Nat} (F : XF x g y0) (d : decode (xmB y0) pc = .ok (.getfield idx, 3)) (hw : Cond.fieldLink (xmN y0).cls idx "ButterChurn$Tape" "place" "I" ∈ TB) (k9 : EX x g (xmL y0) M (pc + 3) L (.int (M 7 3) :: S)) : EX x g (xmL y0) M pc L (.ref (ad g 7) :: S) := ex_getf F d inX5 ob_5 rfl (j := 3) (by decide) hw rfl k9
theorem pf_5_3 {x : XC} {g : XG} {y0 : XM} {M : Mem} {pc : Nat} {L : List (Nat × Value)} {S : List Value} {idx : Nat} {v : Int32} (F : XF x g y0) (d : decode (xmB y0) pc = .ok (.putfield idx, 3)) (hw : Cond.fieldLink (xmN y0).cls idx "ButterChurn$Tape" "place" "I" ∈ TB) (k9 : EX x g (xmL y0) (mu M 7 3 v) (pc + 3) L S) : EX x g (xmL y0) M pc L (.int v :: .ref (ad g 7) :: S) := ex_putf F d inX5 tyX5 tyX5_ok nmX5 ob_5 rfl (j := 3) (by decide) hw rfl (ty := .int) (by decide +kernel) rfl rfl (Nat.le_of_ble_eq_true rfl) os_5_3 k9
theorem gf_5_4 {x : XC} {g : XG} {y0 : XM} {M : Mem} {pc : Nat} {L : List (Nat × Value)} {S : List Value} {idx : Nat} (F : XF x g y0) (d : decode (xmB y0) pc = .ok (.getfield idx, 3)) (hw : Cond.fieldLink (xmN y0).cls idx "ButterChurn$Tape" "behind" "I" ∈ TB) (k9 : EX x g (xmL y0) M (pc + 3) L (.int (M 7 4) :: S)) : EX x g (xmL y0) M pc L (.ref (ad g 7) :: S) := ex_getf F d inX5 ob_5 rfl (j := 4) (by decide) hw rfl k9
theorem pf_5_4 {x : XC} {g : XG} {y0 : XM} {M : Mem} {pc : Nat} {L : List (Nat × Value)} {S : List Value} {idx : Nat} {v : Int32} (F : XF x g y0) (d : decode (xmB y0) pc = .ok (.putfield idx, 3)) (hw : Cond.fieldLink (xmN y0).cls idx "ButterChurn$Tape" "behind" "I" ∈ TB) (k9 : EX x g (xmL y0) (mu M 7 4 v) (pc + 3) L S) : EX x g (xmL y0) M pc L (.int v :: .ref (ad g 7) :: S) := ex_putf F d inX5 tyX5 tyX5_ok nmX5 ob_5 rfl (j := 4) (by decide) hw rfl (ty := .int) (by decide +kernel) rfl rfl (Nat.le_of_ble_eq_true rfl) os_5_4 k9
theorem gf_5_5 {x : XC} {g : XG} {y0 : XM} {M : Mem} {pc : Nat} {L : List (Nat × Value)} {S : List Value} {idx : Nat} (F : XF x g y0) (d : decode (xmB y0) pc = .ok (.getfield idx, 3)) (hw : Cond.fieldLink (xmN y0).cls idx "ButterChurn$Tape" "number" "I" ∈ TB) (k9 : EX x g (xmL y0) M (pc + 3) L (.int (M 7 5) :: S)) : EX x g (xmL y0) M pc L (.ref (ad g 7) :: S) := ex_getf F d inX5 ob_5 rfl (j := 5) (by decide) hw rfl k9
theorem pf_5_5 {x : XC} {g : XG} {y0 : XM} {M : Mem} {pc : Nat} {L : List (Nat × Value)} {S : List Value} {idx : Nat} {v : Int32} (F : XF x g y0) (d : decode (xmB y0) pc = .ok (.putfield idx, 3)) (hw : Cond.fieldLink (xmN y0).cls idx "ButterChurn$Tape" "number" "I" ∈ TB) (k9 : EX x g (xmL y0) (mu M 7 5 v) (pc + 3) L S) : EX x g (xmL y0) M pc L (.int v :: .ref (ad g 7) :: S) := ex_putf F d inX5 tyX5 tyX5_ok nmX5 ob_5 rfl (j := 5) (by decide) hw rfl (ty := .int) (by decide +kernel) rfl rfl (Nat.le_of_ble_eq_true rfl) os_5_5 k9
theorem la_6_0 : u_lay RX6 TX6 0 ∈ TB := tb_1 56 (by decide +kernel) (by decide +kernel)
theorem la_6_1 : u_lay RX6 TX6 1 ∈ TB := tb_1 58 (by decide +kernel) (by decide +kernel)
theorem la_6_2 : u_lay RX6 TX6 2 ∈ TB := tb_1 60 (by decide +kernel) (by decide +kernel)
theorem la_6_3 : u_lay RX6 TX6 3 ∈ TB := tb_1 62 (by decide +kernel) (by decide +kernel)
theorem la_6_4 : u_lay RX6 TX6 4 ∈ TB := tb_1 64 (by decide +kernel) (by decide +kernel)
theorem inX6 : ∀ w ∈ wsX60, w ∈ TB := by
  intro w hw
  obtain ⟨k, hk, rfl⟩ := List.mem_map.mp hw
  match k, List.mem_range.mp hk with
  | 0, _ => exact la_6_0
  | 1, _ => exact la_6_1
  | 2, _ => exact la_6_2
  | 3, _ => exact la_6_3
  | 4, _ => exact la_6_4
  | n + 5, h => omega
theorem gf_6_0 {x : XC} {g : XG} {y0 : XM} {M : Mem} {pc : Nat} {L : List (Nat × Value)} {S : List Value} {idx : Nat} {k : Nat} (h : isO 6 k) {q9 : Nat} (hq : k + 1 = q9) (F : XF x g y0) (d : decode (xmB y0) pc = .ok (.getfield idx, 3)) (hw : Cond.fieldLink (xmN y0).cls idx "ButterChurn$Told" "rules" "[I" ∈ TB) (k9 : EX x g (xmL y0) M (pc + 3) L (.ref (ad g q9) :: S)) : EX x g (xmL y0) M pc L (.ref (ad g k) :: S) := ex_getf F d inX6 (ob_6 h) rfl (j := 0) (by decide) hw (by subst hq; rfl) k9
theorem gf_6_1 {x : XC} {g : XG} {y0 : XM} {M : Mem} {pc : Nat} {L : List (Nat × Value)} {S : List Value} {idx : Nat} {k : Nat} (h : isO 6 k) {q9 : Nat} (hq : k + 2 = q9) (F : XF x g y0) (d : decode (xmB y0) pc = .ok (.getfield idx, 3)) (hw : Cond.fieldLink (xmN y0).cls idx "ButterChurn$Told" "litreDrops" "[I" ∈ TB) (k9 : EX x g (xmL y0) M (pc + 3) L (.ref (ad g q9) :: S)) : EX x g (xmL y0) M pc L (.ref (ad g k) :: S) := ex_getf F d inX6 (ob_6 h) rfl (j := 1) (by decide) hw (by subst hq; rfl) k9
theorem gf_6_2 {x : XC} {g : XG} {y0 : XM} {M : Mem} {pc : Nat} {L : List (Nat × Value)} {S : List Value} {idx : Nat} {k : Nat} (h : isO 6 k) {q9 : Nat} (hq : k + 3 = q9) (F : XF x g y0) (d : decode (xmB y0) pc = .ok (.getfield idx, 3)) (hw : Cond.fieldLink (xmN y0).cls idx "ButterChurn$Told" "litres" "[I" ∈ TB) (k9 : EX x g (xmL y0) M (pc + 3) L (.ref (ad g q9) :: S)) : EX x g (xmL y0) M pc L (.ref (ad g k) :: S) := ex_getf F d inX6 (ob_6 h) rfl (j := 2) (by decide) hw (by subst hq; rfl) k9
theorem gf_6_3 {x : XC} {g : XG} {y0 : XM} {M : Mem} {pc : Nat} {L : List (Nat × Value)} {S : List Value} {idx : Nat} {k : Nat} (h : isO 6 k) {q9 : Nat} (hq : k + 4 = q9) (F : XF x g y0) (d : decode (xmB y0) pc = .ok (.getfield idx, 3)) (hw : Cond.fieldLink (xmN y0).cls idx "ButterChurn$Told" "hards" "[I" ∈ TB) (k9 : EX x g (xmL y0) M (pc + 3) L (.ref (ad g q9) :: S)) : EX x g (xmL y0) M pc L (.ref (ad g k) :: S) := ex_getf F d inX6 (ob_6 h) rfl (j := 3) (by decide) hw (by subst hq; rfl) k9
theorem gf_6_4 {x : XC} {g : XG} {y0 : XM} {M : Mem} {pc : Nat} {L : List (Nat × Value)} {S : List Value} {idx : Nat} {k : Nat} (h : isO 6 k) (F : XF x g y0) (d : decode (xmB y0) pc = .ok (.getfield idx, 3)) (hw : Cond.fieldLink (xmN y0).cls idx "ButterChurn$Told" "cows" "I" ∈ TB) (k9 : EX x g (xmL y0) M (pc + 3) L (.int (M k 4) :: S)) : EX x g (xmL y0) M pc L (.ref (ad g k) :: S) := ex_getf F d inX6 (ob_6 h) rfl (j := 4) (by decide) hw rfl k9
theorem pf_6_4 {x : XC} {g : XG} {y0 : XM} {M : Mem} {pc : Nat} {L : List (Nat × Value)} {S : List Value} {idx : Nat} {v : Int32} {k : Nat} (h : isO 6 k) (F : XF x g y0) (d : decode (xmB y0) pc = .ok (.putfield idx, 3)) (hw : Cond.fieldLink (xmN y0).cls idx "ButterChurn$Told" "cows" "I" ∈ TB) (k9 : EX x g (xmL y0) (mu M k 4 v) (pc + 3) L S) : EX x g (xmL y0) M pc L (.int v :: .ref (ad g k) :: S) := ex_putf F d inX6 tyX6 tyX6_ok nmX6 (ob_6 h) rfl (j := 4) (by decide) hw rfl (ty := .int) (by decide +kernel) rfl rfl (Nat.le_of_ble_eq_true rfl) (os_6_4 h) k9
theorem la_7_0 : u_lay RX7 TX7 0 ∈ TB := tb_2 0 (by decide +kernel) (by decide +kernel)
theorem la_7_1 : u_lay RX7 TX7 1 ∈ TB := tb_2 2 (by decide +kernel) (by decide +kernel)
theorem la_7_2 : u_lay RX7 TX7 2 ∈ TB := tb_2 4 (by decide +kernel) (by decide +kernel)
theorem la_7_3 : u_lay RX7 TX7 3 ∈ TB := tb_2 6 (by decide +kernel) (by decide +kernel)
theorem la_7_4 : u_lay RX7 TX7 4 ∈ TB := tb_2 8 (by decide +kernel) (by decide +kernel)
theorem la_7_5 : u_lay RX7 TX7 5 ∈ TB := tb_2 10 (by decide +kernel) (by decide +kernel)
theorem la_7_6 : u_lay RX7 TX7 6 ∈ TB := tb_2 12 (by decide +kernel) (by decide +kernel)
theorem la_7_7 : u_lay RX7 TX7 7 ∈ TB := tb_2 14 (by decide +kernel) (by decide +kernel)
theorem la_7_8 : u_lay RX7 TX7 8 ∈ TB := tb_2 16 (by decide +kernel) (by decide +kernel)
theorem la_7_9 : u_lay RX7 TX7 9 ∈ TB := tb_2 18 (by decide +kernel) (by decide +kernel)
theorem la_7_10 : u_lay RX7 TX7 10 ∈ TB := tb_2 20 (by decide +kernel) (by decide +kernel)
theorem la_7_11 : u_lay RX7 TX7 11 ∈ TB := tb_2 22 (by decide +kernel) (by decide +kernel)
theorem inX7 : ∀ w ∈ wsX70, w ∈ TB := by
  intro w hw
  obtain ⟨k, hk, rfl⟩ := List.mem_map.mp hw
  match k, List.mem_range.mp hk with
  | 0, _ => exact la_7_0
  | 1, _ => exact la_7_1
  | 2, _ => exact la_7_2
  | 3, _ => exact la_7_3
  | 4, _ => exact la_7_4
  | 5, _ => exact la_7_5
  | 6, _ => exact la_7_6
  | 7, _ => exact la_7_7
  | 8, _ => exact la_7_8
  | 9, _ => exact la_7_9
  | 10, _ => exact la_7_10
  | 11, _ => exact la_7_11
  | n + 12, h => omega
theorem gf_7_0 {x : XC} {g : XG} {y0 : XM} {M : Mem} {pc : Nat} {L : List (Nat × Value)} {S : List Value} {idx : Nat} (F : XF x g y0) (d : decode (xmB y0) pc = .ok (.getfield idx, 3)) (hw : Cond.fieldLink (xmN y0).cls idx "ButterChurn" "told" "LButterChurn$Told;" ∈ TB) (k9 : EX x g (xmL y0) M (pc + 3) L (.ref (ad g 1) :: S)) : EX x g (xmL y0) M pc L (.ref (ad g 0) :: S) := ex_getf F d inX7 ob_7 rfl (j := 0) (by decide) hw rfl k9
theorem gf_7_1 {x : XC} {g : XG} {y0 : XM} {M : Mem} {pc : Nat} {L : List (Nat × Value)} {S : List Value} {idx : Nat} (F : XF x g y0) (d : decode (xmB y0) pc = .ok (.getfield idx, 3)) (hw : Cond.fieldLink (xmN y0).cls idx "ButterChurn" "reading" "LButterChurn$Reading;" ∈ TB) (k9 : EX x g (xmL y0) M (pc + 3) L (.ref (ad g 6) :: S)) : EX x g (xmL y0) M pc L (.ref (ad g 0) :: S) := ex_getf F d inX7 ob_7 rfl (j := 1) (by decide) hw rfl k9
theorem gf_7_2 {x : XC} {g : XG} {y0 : XM} {M : Mem} {pc : Nat} {L : List (Nat × Value)} {S : List Value} {idx : Nat} (F : XF x g y0) (d : decode (xmB y0) pc = .ok (.getfield idx, 3)) (hw : Cond.fieldLink (xmN y0).cls idx "ButterChurn" "churn" "LButterChurn$Churn;" ∈ TB) (k9 : EX x g (xmL y0) M (pc + 3) L (.ref (ad g 14) :: S)) : EX x g (xmL y0) M pc L (.ref (ad g 0) :: S) := ex_getf F d inX7 ob_7 rfl (j := 2) (by decide) hw rfl k9
theorem gf_7_3 {x : XC} {g : XG} {y0 : XM} {M : Mem} {pc : Nat} {L : List (Nat × Value)} {S : List Value} {idx : Nat} (F : XF x g y0) (d : decode (xmB y0) pc = .ok (.getfield idx, 3)) (hw : Cond.fieldLink (xmN y0).cls idx "ButterChurn" "trial" "LButterChurn$Churn;" ∈ TB) (k9 : EX x g (xmL y0) M (pc + 3) L (.ref (ad g 16) :: S)) : EX x g (xmL y0) M pc L (.ref (ad g 0) :: S) := ex_getf F d inX7 ob_7 rfl (j := 3) (by decide) hw rfl k9
theorem gf_7_4 {x : XC} {g : XG} {y0 : XM} {M : Mem} {pc : Nat} {L : List (Nat × Value)} {S : List Value} {idx : Nat} (F : XF x g y0) (d : decode (xmB y0) pc = .ok (.getfield idx, 3)) (hw : Cond.fieldLink (xmN y0).cls idx "ButterChurn" "best" "LButterChurn$Best;" ∈ TB) (k9 : EX x g (xmL y0) M (pc + 3) L (.ref (ad g 18) :: S)) : EX x g (xmL y0) M pc L (.ref (ad g 0) :: S) := ex_getf F d inX7 ob_7 rfl (j := 4) (by decide) hw rfl k9
theorem gf_7_5 {x : XC} {g : XG} {y0 : XM} {M : Mem} {pc : Nat} {L : List (Nat × Value)} {S : List Value} {idx : Nat} (F : XF x g y0) (d : decode (xmB y0) pc = .ok (.getfield idx, 3)) (hw : Cond.fieldLink (xmN y0).cls idx "ButterChurn" "images" "[LButterChurn$Image;" ∈ TB) (k9 : EX x g (xmL y0) M (pc + 3) L (.ref (ad g 19) :: S)) : EX x g (xmL y0) M pc L (.ref (ad g 0) :: S) := ex_getf F d inX7 ob_7 rfl (j := 5) (by decide) hw rfl k9
theorem gf_7_6 {x : XC} {g : XG} {y0 : XM} {M : Mem} {pc : Nat} {L : List (Nat × Value)} {S : List Value} {idx : Nat} (F : XF x g y0) (d : decode (xmB y0) pc = .ok (.getfield idx, 3)) (hw : Cond.fieldLink (xmN y0).cls idx "ButterChurn" "sheets" "[LButterChurn$Sheet;" ∈ TB) (k9 : EX x g (xmL y0) M (pc + 3) L (.ref (ad g 26) :: S)) : EX x g (xmL y0) M pc L (.ref (ad g 0) :: S) := ex_getf F d inX7 ob_7 rfl (j := 6) (by decide) hw rfl k9
theorem gf_7_7 {x : XC} {g : XG} {y0 : XM} {M : Mem} {pc : Nat} {L : List (Nat × Value)} {S : List Value} {idx : Nat} (F : XF x g y0) (d : decode (xmB y0) pc = .ok (.getfield idx, 3)) (hw : Cond.fieldLink (xmN y0).cls idx "ButterChurn" "seenCows" "[I" ∈ TB) (k9 : EX x g (xmL y0) M (pc + 3) L (.ref (ad g 35) :: S)) : EX x g (xmL y0) M pc L (.ref (ad g 0) :: S) := ex_getf F d inX7 ob_7 rfl (j := 7) (by decide) hw rfl k9
theorem gf_7_8 {x : XC} {g : XG} {y0 : XM} {M : Mem} {pc : Nat} {L : List (Nat × Value)} {S : List Value} {idx : Nat} (F : XF x g y0) (d : decode (xmB y0) pc = .ok (.getfield idx, 3)) (hw : Cond.fieldLink (xmN y0).cls idx "ButterChurn" "seenTurns" "[I" ∈ TB) (k9 : EX x g (xmL y0) M (pc + 3) L (.ref (ad g 36) :: S)) : EX x g (xmL y0) M pc L (.ref (ad g 0) :: S) := ex_getf F d inX7 ob_7 rfl (j := 8) (by decide) hw rfl k9
theorem gf_7_9 {x : XC} {g : XG} {y0 : XM} {M : Mem} {pc : Nat} {L : List (Nat × Value)} {S : List Value} {idx : Nat} (F : XF x g y0) (d : decode (xmB y0) pc = .ok (.getfield idx, 3)) (hw : Cond.fieldLink (xmN y0).cls idx "ButterChurn" "water" "[I" ∈ TB) (k9 : EX x g (xmL y0) M (pc + 3) L (.ref (ad g 37) :: S)) : EX x g (xmL y0) M pc L (.ref (ad g 0) :: S) := ex_getf F d inX7 ob_7 rfl (j := 9) (by decide) hw rfl k9
theorem gf_7_10 {x : XC} {g : XG} {y0 : XM} {M : Mem} {pc : Nat} {L : List (Nat × Value)} {S : List Value} {idx : Nat} (F : XF x g y0) (d : decode (xmB y0) pc = .ok (.getfield idx, 3)) (hw : Cond.fieldLink (xmN y0).cls idx "ButterChurn" "seen" "I" ∈ TB) (k9 : EX x g (xmL y0) M (pc + 3) L (.int (M 0 10) :: S)) : EX x g (xmL y0) M pc L (.ref (ad g 0) :: S) := ex_getf F d inX7 ob_7 rfl (j := 10) (by decide) hw rfl k9
theorem pf_7_10 {x : XC} {g : XG} {y0 : XM} {M : Mem} {pc : Nat} {L : List (Nat × Value)} {S : List Value} {idx : Nat} {v : Int32} (F : XF x g y0) (d : decode (xmB y0) pc = .ok (.putfield idx, 3)) (hw : Cond.fieldLink (xmN y0).cls idx "ButterChurn" "seen" "I" ∈ TB) (k9 : EX x g (xmL y0) (mu M 0 10 v) (pc + 3) L S) : EX x g (xmL y0) M pc L (.int v :: .ref (ad g 0) :: S) := ex_putf F d inX7 tyX7 tyX7_ok nmX7 ob_7 rfl (j := 10) (by decide) hw rfl (ty := .int) (by decide +kernel) rfl rfl (Nat.le_of_ble_eq_true rfl) os_7_10 k9
theorem gf_7_11 {x : XC} {g : XG} {y0 : XM} {M : Mem} {pc : Nat} {L : List (Nat × Value)} {S : List Value} {idx : Nat} (F : XF x g y0) (d : decode (xmB y0) pc = .ok (.getfield idx, 3)) (hw : Cond.fieldLink (xmN y0).cls idx "ButterChurn" "tornFault" "I" ∈ TB) (k9 : EX x g (xmL y0) M (pc + 3) L (.int (M 0 11) :: S)) : EX x g (xmL y0) M pc L (.ref (ad g 0) :: S) := ex_getf F d inX7 ob_7 rfl (j := 11) (by decide) hw rfl k9
theorem pf_7_11 {x : XC} {g : XG} {y0 : XM} {M : Mem} {pc : Nat} {L : List (Nat × Value)} {S : List Value} {idx : Nat} {v : Int32} (F : XF x g y0) (d : decode (xmB y0) pc = .ok (.putfield idx, 3)) (hw : Cond.fieldLink (xmN y0).cls idx "ButterChurn" "tornFault" "I" ∈ TB) (k9 : EX x g (xmL y0) (mu M 0 11 v) (pc + 3) L S) : EX x g (xmL y0) M pc L (.int v :: .ref (ad g 0) :: S) := ex_putf F d inX7 tyX7 tyX7_ok nmX7 ob_7 rfl (j := 11) (by decide) hw rfl (ty := .int) (by decide +kernel) rfl rfl (Nat.le_of_ble_eq_true rfl) os_7_11 k9
theorem la_8_0 : u_lay RX8 TX8 0 ∈ TB := tb_4 98 (by decide +kernel) (by decide +kernel)
theorem la_8_1 : u_lay RX8 TX8 1 ∈ TB := tb_4 100 (by decide +kernel) (by decide +kernel)
theorem la_8_2 : u_lay RX8 TX8 2 ∈ TB := tb_4 102 (by decide +kernel) (by decide +kernel)
theorem la_8_3 : u_lay RX8 TX8 3 ∈ TB := tb_4 104 (by decide +kernel) (by decide +kernel)
theorem la_8_4 : u_lay RX8 TX8 4 ∈ TB := tb_4 106 (by decide +kernel) (by decide +kernel)
theorem la_8_5 : u_lay RX8 TX8 5 ∈ TB := tb_4 108 (by decide +kernel) (by decide +kernel)
theorem la_8_6 : u_lay RX8 TX8 6 ∈ TB := tb_4 110 (by decide +kernel) (by decide +kernel)
theorem la_8_7 : u_lay RX8 TX8 7 ∈ TB := tb_4 112 (by decide +kernel) (by decide +kernel)
theorem la_8_8 : u_lay RX8 TX8 8 ∈ TB := tb_4 114 (by decide +kernel) (by decide +kernel)
theorem la_8_9 : u_lay RX8 TX8 9 ∈ TB := tb_4 116 (by decide +kernel) (by decide +kernel)
theorem la_8_10 : u_lay RX8 TX8 10 ∈ TB := tb_4 118 (by decide +kernel) (by decide +kernel)
theorem la_8_11 : u_lay RX8 TX8 11 ∈ TB := tb_4 120 (by decide +kernel) (by decide +kernel)
theorem la_8_12 : u_lay RX8 TX8 12 ∈ TB := tb_4 122 (by decide +kernel) (by decide +kernel)
theorem la_8_13 : u_lay RX8 TX8 13 ∈ TB := tb_4 124 (by decide +kernel) (by decide +kernel)
theorem la_8_14 : u_lay RX8 TX8 14 ∈ TB := tb_4 126 (by decide +kernel) (by decide +kernel)
theorem la_8_15 : u_lay RX8 TX8 15 ∈ TB := tb_4 128 (by decide +kernel) (by decide +kernel)
theorem la_8_16 : u_lay RX8 TX8 16 ∈ TB := tb_4 130 (by decide +kernel) (by decide +kernel)
theorem la_8_17 : u_lay RX8 TX8 17 ∈ TB := tb_4 132 (by decide +kernel) (by decide +kernel)
theorem la_8_18 : u_lay RX8 TX8 18 ∈ TB := tb_4 134 (by decide +kernel) (by decide +kernel)
theorem la_8_19 : u_lay RX8 TX8 19 ∈ TB := tb_4 136 (by decide +kernel) (by decide +kernel)
theorem la_8_20 : u_lay RX8 TX8 20 ∈ TB := tb_4 138 (by decide +kernel) (by decide +kernel)
theorem la_8_21 : u_lay RX8 TX8 21 ∈ TB := tb_4 140 (by decide +kernel) (by decide +kernel)
theorem la_8_22 : u_lay RX8 TX8 22 ∈ TB := tb_4 142 (by decide +kernel) (by decide +kernel)
theorem la_8_23 : u_lay RX8 TX8 23 ∈ TB := tb_4 144 (by decide +kernel) (by decide +kernel)
theorem la_8_24 : u_lay RX8 TX8 24 ∈ TB := tb_4 146 (by decide +kernel) (by decide +kernel)
theorem la_8_25 : u_lay RX8 TX8 25 ∈ TB := tb_4 148 (by decide +kernel) (by decide +kernel)
theorem la_8_26 : u_lay RX8 TX8 26 ∈ TB := tb_4 150 (by decide +kernel) (by decide +kernel)
theorem la_8_27 : u_lay RX8 TX8 27 ∈ TB := tb_4 152 (by decide +kernel) (by decide +kernel)
theorem la_8_28 : u_lay RX8 TX8 28 ∈ TB := tb_4 154 (by decide +kernel) (by decide +kernel)
theorem la_8_29 : u_lay RX8 TX8 29 ∈ TB := tb_4 156 (by decide +kernel) (by decide +kernel)
theorem la_8_30 : u_lay RX8 TX8 30 ∈ TB := tb_4 158 (by decide +kernel) (by decide +kernel)
theorem la_8_31 : u_lay RX8 TX8 31 ∈ TB := tb_4 160 (by decide +kernel) (by decide +kernel)
theorem la_8_32 : u_lay RX8 TX8 32 ∈ TB := tb_4 162 (by decide +kernel) (by decide +kernel)
theorem la_8_33 : u_lay RX8 TX8 33 ∈ TB := tb_4 164 (by decide +kernel) (by decide +kernel)
theorem la_8_34 : u_lay RX8 TX8 34 ∈ TB := tb_4 166 (by decide +kernel) (by decide +kernel)
theorem inX8 : ∀ w ∈ wsX80, w ∈ TB := by
  intro w hw
  obtain ⟨k, hk, rfl⟩ := List.mem_map.mp hw
  match k, List.mem_range.mp hk with
  | 0, _ => exact la_8_0
  | 1, _ => exact la_8_1
  | 2, _ => exact la_8_2
  | 3, _ => exact la_8_3
  | 4, _ => exact la_8_4
  | 5, _ => exact la_8_5
  | 6, _ => exact la_8_6
  | 7, _ => exact la_8_7
  | 8, _ => exact la_8_8
  | 9, _ => exact la_8_9
  | 10, _ => exact la_8_10
  | 11, _ => exact la_8_11
  | 12, _ => exact la_8_12
  | 13, _ => exact la_8_13
  | 14, _ => exact la_8_14
  | 15, _ => exact la_8_15
  | 16, _ => exact la_8_16
  | 17, _ => exact la_8_17
  | 18, _ => exact la_8_18
  | 19, _ => exact la_8_19
  | 20, _ => exact la_8_20
  | 21, _ => exact la_8_21
  | 22, _ => exact la_8_22
  | 23, _ => exact la_8_23
  | 24, _ => exact la_8_24
  | 25, _ => exact la_8_25
  | 26, _ => exact la_8_26
  | 27, _ => exact la_8_27
  | 28, _ => exact la_8_28
  | 29, _ => exact la_8_29
  | 30, _ => exact la_8_30
  | 31, _ => exact la_8_31
  | 32, _ => exact la_8_32
  | 33, _ => exact la_8_33
  | 34, _ => exact la_8_34
  | n + 35, h => omega
theorem gf_8_0 {x : XC} {g : XG} {y0 : XM} {M : Mem} {pc : Nat} {L : List (Nat × Value)} {S : List Value} {idx : Nat} (F : XF x g y0) (d : decode (xmB y0) pc = .ok (.getfield idx, 3)) (hw : Cond.fieldLink (xmN y0).cls idx "ButterChurnModel" "tape" "[I" ∈ TB) (k9 : EX x g (xmL y0) M (pc + 3) L (.ref (ad g 39) :: S)) : EX x g (xmL y0) M pc L (.ref (ad g 38) :: S) := ex_getf F d inX8 ob_8 rfl (j := 0) (by decide) hw rfl k9
theorem gf_8_1 {x : XC} {g : XG} {y0 : XM} {M : Mem} {pc : Nat} {L : List (Nat × Value)} {S : List Value} {idx : Nat} (F : XF x g y0) (d : decode (xmB y0) pc = .ok (.getfield idx, 3)) (hw : Cond.fieldLink (xmN y0).cls idx "ButterChurnModel" "taped" "I" ∈ TB) (k9 : EX x g (xmL y0) M (pc + 3) L (.int (M 38 1) :: S)) : EX x g (xmL y0) M pc L (.ref (ad g 38) :: S) := ex_getf F d inX8 ob_8 rfl (j := 1) (by decide) hw rfl k9
theorem pf_8_1 {x : XC} {g : XG} {y0 : XM} {M : Mem} {pc : Nat} {L : List (Nat × Value)} {S : List Value} {idx : Nat} {v : Int32} (F : XF x g y0) (d : decode (xmB y0) pc = .ok (.putfield idx, 3)) (hw : Cond.fieldLink (xmN y0).cls idx "ButterChurnModel" "taped" "I" ∈ TB) (k9 : EX x g (xmL y0) (mu M 38 1 v) (pc + 3) L S) : EX x g (xmL y0) M pc L (.int v :: .ref (ad g 38) :: S) := ex_putf F d inX8 tyX8 tyX8_ok nmX8 ob_8 rfl (j := 1) (by decide) hw rfl (ty := .int) (by decide +kernel) rfl rfl (Nat.le_of_ble_eq_true rfl) os_8_1 k9
theorem gf_8_2 {x : XC} {g : XG} {y0 : XM} {M : Mem} {pc : Nat} {L : List (Nat × Value)} {S : List Value} {idx : Nat} (F : XF x g y0) (d : decode (xmB y0) pc = .ok (.getfield idx, 3)) (hw : Cond.fieldLink (xmN y0).cls idx "ButterChurnModel" "fault" "I" ∈ TB) (k9 : EX x g (xmL y0) M (pc + 3) L (.int (M 38 2) :: S)) : EX x g (xmL y0) M pc L (.ref (ad g 38) :: S) := ex_getf F d inX8 ob_8 rfl (j := 2) (by decide) hw rfl k9
theorem pf_8_2 {x : XC} {g : XG} {y0 : XM} {M : Mem} {pc : Nat} {L : List (Nat × Value)} {S : List Value} {idx : Nat} {v : Int32} (F : XF x g y0) (d : decode (xmB y0) pc = .ok (.putfield idx, 3)) (hw : Cond.fieldLink (xmN y0).cls idx "ButterChurnModel" "fault" "I" ∈ TB) (k9 : EX x g (xmL y0) (mu M 38 2 v) (pc + 3) L S) : EX x g (xmL y0) M pc L (.int v :: .ref (ad g 38) :: S) := ex_putf F d inX8 tyX8 tyX8_ok nmX8 ob_8 rfl (j := 2) (by decide) hw rfl (ty := .int) (by decide +kernel) rfl rfl (Nat.le_of_ble_eq_true rfl) os_8_2 k9
theorem gf_8_3 {x : XC} {g : XG} {y0 : XM} {M : Mem} {pc : Nat} {L : List (Nat × Value)} {S : List Value} {idx : Nat} (F : XF x g y0) (d : decode (xmB y0) pc = .ok (.getfield idx, 3)) (hw : Cond.fieldLink (xmN y0).cls idx "ButterChurnModel" "broken" "I" ∈ TB) (k9 : EX x g (xmL y0) M (pc + 3) L (.int (M 38 3) :: S)) : EX x g (xmL y0) M pc L (.ref (ad g 38) :: S) := ex_getf F d inX8 ob_8 rfl (j := 3) (by decide) hw rfl k9
theorem pf_8_3 {x : XC} {g : XG} {y0 : XM} {M : Mem} {pc : Nat} {L : List (Nat × Value)} {S : List Value} {idx : Nat} {v : Int32} (F : XF x g y0) (d : decode (xmB y0) pc = .ok (.putfield idx, 3)) (hw : Cond.fieldLink (xmN y0).cls idx "ButterChurnModel" "broken" "I" ∈ TB) (k9 : EX x g (xmL y0) (mu M 38 3 v) (pc + 3) L S) : EX x g (xmL y0) M pc L (.int v :: .ref (ad g 38) :: S) := ex_putf F d inX8 tyX8 tyX8_ok nmX8 ob_8 rfl (j := 3) (by decide) hw rfl (ty := .int) (by decide +kernel) rfl rfl (Nat.le_of_ble_eq_true rfl) os_8_3 k9
theorem gf_8_4 {x : XC} {g : XG} {y0 : XM} {M : Mem} {pc : Nat} {L : List (Nat × Value)} {S : List Value} {idx : Nat} (F : XF x g y0) (d : decode (xmB y0) pc = .ok (.getfield idx, 3)) (hw : Cond.fieldLink (xmN y0).cls idx "ButterChurnModel" "brokenAt" "I" ∈ TB) (k9 : EX x g (xmL y0) M (pc + 3) L (.int (M 38 4) :: S)) : EX x g (xmL y0) M pc L (.ref (ad g 38) :: S) := ex_getf F d inX8 ob_8 rfl (j := 4) (by decide) hw rfl k9
theorem pf_8_4 {x : XC} {g : XG} {y0 : XM} {M : Mem} {pc : Nat} {L : List (Nat × Value)} {S : List Value} {idx : Nat} {v : Int32} (F : XF x g y0) (d : decode (xmB y0) pc = .ok (.putfield idx, 3)) (hw : Cond.fieldLink (xmN y0).cls idx "ButterChurnModel" "brokenAt" "I" ∈ TB) (k9 : EX x g (xmL y0) (mu M 38 4 v) (pc + 3) L S) : EX x g (xmL y0) M pc L (.int v :: .ref (ad g 38) :: S) := ex_putf F d inX8 tyX8 tyX8_ok nmX8 ob_8 rfl (j := 4) (by decide) hw rfl (ty := .int) (by decide +kernel) rfl rfl (Nat.le_of_ble_eq_true rfl) os_8_4 k9
theorem gf_8_5 {x : XC} {g : XG} {y0 : XM} {M : Mem} {pc : Nat} {L : List (Nat × Value)} {S : List Value} {idx : Nat} (F : XF x g y0) (d : decode (xmB y0) pc = .ok (.getfield idx, 3)) (hw : Cond.fieldLink (xmN y0).cls idx "ButterChurnModel" "spot" "I" ∈ TB) (k9 : EX x g (xmL y0) M (pc + 3) L (.int (M 38 5) :: S)) : EX x g (xmL y0) M pc L (.ref (ad g 38) :: S) := ex_getf F d inX8 ob_8 rfl (j := 5) (by decide) hw rfl k9
theorem pf_8_5 {x : XC} {g : XG} {y0 : XM} {M : Mem} {pc : Nat} {L : List (Nat × Value)} {S : List Value} {idx : Nat} {v : Int32} (F : XF x g y0) (d : decode (xmB y0) pc = .ok (.putfield idx, 3)) (hw : Cond.fieldLink (xmN y0).cls idx "ButterChurnModel" "spot" "I" ∈ TB) (k9 : EX x g (xmL y0) (mu M 38 5 v) (pc + 3) L S) : EX x g (xmL y0) M pc L (.int v :: .ref (ad g 38) :: S) := ex_putf F d inX8 tyX8 tyX8_ok nmX8 ob_8 rfl (j := 5) (by decide) hw rfl (ty := .int) (by decide +kernel) rfl rfl (Nat.le_of_ble_eq_true rfl) os_8_5 k9
theorem gf_8_6 {x : XC} {g : XG} {y0 : XM} {M : Mem} {pc : Nat} {L : List (Nat × Value)} {S : List Value} {idx : Nat} (F : XF x g y0) (d : decode (xmB y0) pc = .ok (.getfield idx, 3)) (hw : Cond.fieldLink (xmN y0).cls idx "ButterChurnModel" "here" "I" ∈ TB) (k9 : EX x g (xmL y0) M (pc + 3) L (.int (M 38 6) :: S)) : EX x g (xmL y0) M pc L (.ref (ad g 38) :: S) := ex_getf F d inX8 ob_8 rfl (j := 6) (by decide) hw rfl k9
theorem pf_8_6 {x : XC} {g : XG} {y0 : XM} {M : Mem} {pc : Nat} {L : List (Nat × Value)} {S : List Value} {idx : Nat} {v : Int32} (F : XF x g y0) (d : decode (xmB y0) pc = .ok (.putfield idx, 3)) (hw : Cond.fieldLink (xmN y0).cls idx "ButterChurnModel" "here" "I" ∈ TB) (k9 : EX x g (xmL y0) (mu M 38 6 v) (pc + 3) L S) : EX x g (xmL y0) M pc L (.int v :: .ref (ad g 38) :: S) := ex_putf F d inX8 tyX8 tyX8_ok nmX8 ob_8 rfl (j := 6) (by decide) hw rfl (ty := .int) (by decide +kernel) rfl rfl (Nat.le_of_ble_eq_true rfl) os_8_6 k9
theorem gf_8_7 {x : XC} {g : XG} {y0 : XM} {M : Mem} {pc : Nat} {L : List (Nat × Value)} {S : List Value} {idx : Nat} (F : XF x g y0) (d : decode (xmB y0) pc = .ok (.getfield idx, 3)) (hw : Cond.fieldLink (xmN y0).cls idx "ButterChurnModel" "token" "I" ∈ TB) (k9 : EX x g (xmL y0) M (pc + 3) L (.int (M 38 7) :: S)) : EX x g (xmL y0) M pc L (.ref (ad g 38) :: S) := ex_getf F d inX8 ob_8 rfl (j := 7) (by decide) hw rfl k9
theorem pf_8_7 {x : XC} {g : XG} {y0 : XM} {M : Mem} {pc : Nat} {L : List (Nat × Value)} {S : List Value} {idx : Nat} {v : Int32} (F : XF x g y0) (d : decode (xmB y0) pc = .ok (.putfield idx, 3)) (hw : Cond.fieldLink (xmN y0).cls idx "ButterChurnModel" "token" "I" ∈ TB) (k9 : EX x g (xmL y0) (mu M 38 7 v) (pc + 3) L S) : EX x g (xmL y0) M pc L (.int v :: .ref (ad g 38) :: S) := ex_putf F d inX8 tyX8 tyX8_ok nmX8 ob_8 rfl (j := 7) (by decide) hw rfl (ty := .int) (by decide +kernel) rfl rfl (Nat.le_of_ble_eq_true rfl) os_8_7 k9
theorem gf_8_8 {x : XC} {g : XG} {y0 : XM} {M : Mem} {pc : Nat} {L : List (Nat × Value)} {S : List Value} {idx : Nat} (F : XF x g y0) (d : decode (xmB y0) pc = .ok (.getfield idx, 3)) (hw : Cond.fieldLink (xmN y0).cls idx "ButterChurnModel" "value" "I" ∈ TB) (k9 : EX x g (xmL y0) M (pc + 3) L (.int (M 38 8) :: S)) : EX x g (xmL y0) M pc L (.ref (ad g 38) :: S) := ex_getf F d inX8 ob_8 rfl (j := 8) (by decide) hw rfl k9
theorem pf_8_8 {x : XC} {g : XG} {y0 : XM} {M : Mem} {pc : Nat} {L : List (Nat × Value)} {S : List Value} {idx : Nat} {v : Int32} (F : XF x g y0) (d : decode (xmB y0) pc = .ok (.putfield idx, 3)) (hw : Cond.fieldLink (xmN y0).cls idx "ButterChurnModel" "value" "I" ∈ TB) (k9 : EX x g (xmL y0) (mu M 38 8 v) (pc + 3) L S) : EX x g (xmL y0) M pc L (.int v :: .ref (ad g 38) :: S) := ex_putf F d inX8 tyX8 tyX8_ok nmX8 ob_8 rfl (j := 8) (by decide) hw rfl (ty := .int) (by decide +kernel) rfl rfl (Nat.le_of_ble_eq_true rfl) os_8_8 k9
theorem gf_8_9 {x : XC} {g : XG} {y0 : XM} {M : Mem} {pc : Nat} {L : List (Nat × Value)} {S : List Value} {idx : Nat} (F : XF x g y0) (d : decode (xmB y0) pc = .ok (.getfield idx, 3)) (hw : Cond.fieldLink (xmN y0).cls idx "ButterChurnModel" "cuts" "[I" ∈ TB) (k9 : EX x g (xmL y0) M (pc + 3) L (.ref (ad g 40) :: S)) : EX x g (xmL y0) M pc L (.ref (ad g 38) :: S) := ex_getf F d inX8 ob_8 rfl (j := 9) (by decide) hw rfl k9
theorem gf_8_10 {x : XC} {g : XG} {y0 : XM} {M : Mem} {pc : Nat} {L : List (Nat × Value)} {S : List Value} {idx : Nat} (F : XF x g y0) (d : decode (xmB y0) pc = .ok (.getfield idx, 3)) (hw : Cond.fieldLink (xmN y0).cls idx "ButterChurnModel" "letters" "[I" ∈ TB) (k9 : EX x g (xmL y0) M (pc + 3) L (.ref (ad g 41) :: S)) : EX x g (xmL y0) M pc L (.ref (ad g 38) :: S) := ex_getf F d inX8 ob_8 rfl (j := 10) (by decide) hw rfl k9
theorem gf_8_11 {x : XC} {g : XG} {y0 : XM} {M : Mem} {pc : Nat} {L : List (Nat × Value)} {S : List Value} {idx : Nat} (F : XF x g y0) (d : decode (xmB y0) pc = .ok (.getfield idx, 3)) (hw : Cond.fieldLink (xmN y0).cls idx "ButterChurnModel" "from" "[I" ∈ TB) (k9 : EX x g (xmL y0) M (pc + 3) L (.ref (ad g 42) :: S)) : EX x g (xmL y0) M pc L (.ref (ad g 38) :: S) := ex_getf F d inX8 ob_8 rfl (j := 11) (by decide) hw rfl k9
theorem gf_8_12 {x : XC} {g : XG} {y0 : XM} {M : Mem} {pc : Nat} {L : List (Nat × Value)} {S : List Value} {idx : Nat} (F : XF x g y0) (d : decode (xmB y0) pc = .ok (.getfield idx, 3)) (hw : Cond.fieldLink (xmN y0).cls idx "ButterChurnModel" "to" "[I" ∈ TB) (k9 : EX x g (xmL y0) M (pc + 3) L (.ref (ad g 43) :: S)) : EX x g (xmL y0) M pc L (.ref (ad g 38) :: S) := ex_getf F d inX8 ob_8 rfl (j := 12) (by decide) hw rfl k9
theorem gf_8_13 {x : XC} {g : XG} {y0 : XM} {M : Mem} {pc : Nat} {L : List (Nat × Value)} {S : List Value} {idx : Nat} (F : XF x g y0) (d : decode (xmB y0) pc = .ok (.getfield idx, 3)) (hw : Cond.fieldLink (xmN y0).cls idx "ButterChurnModel" "low" "[I" ∈ TB) (k9 : EX x g (xmL y0) M (pc + 3) L (.ref (ad g 44) :: S)) : EX x g (xmL y0) M pc L (.ref (ad g 38) :: S) := ex_getf F d inX8 ob_8 rfl (j := 13) (by decide) hw rfl k9
theorem gf_8_14 {x : XC} {g : XG} {y0 : XM} {M : Mem} {pc : Nat} {L : List (Nat × Value)} {S : List Value} {idx : Nat} (F : XF x g y0) (d : decode (xmB y0) pc = .ok (.getfield idx, 3)) (hw : Cond.fieldLink (xmN y0).cls idx "ButterChurnModel" "top" "[I" ∈ TB) (k9 : EX x g (xmL y0) M (pc + 3) L (.ref (ad g 45) :: S)) : EX x g (xmL y0) M pc L (.ref (ad g 38) :: S) := ex_getf F d inX8 ob_8 rfl (j := 14) (by decide) hw rfl k9
theorem gf_8_15 {x : XC} {g : XG} {y0 : XM} {M : Mem} {pc : Nat} {L : List (Nat × Value)} {S : List Value} {idx : Nat} (F : XF x g y0) (d : decode (xmB y0) pc = .ok (.getfield idx, 3)) (hw : Cond.fieldLink (xmN y0).cls idx "ButterChurnModel" "plain" "[I" ∈ TB) (k9 : EX x g (xmL y0) M (pc + 3) L (.ref (ad g 46) :: S)) : EX x g (xmL y0) M pc L (.ref (ad g 38) :: S) := ex_getf F d inX8 ob_8 rfl (j := 15) (by decide) hw rfl k9
theorem gf_8_16 {x : XC} {g : XG} {y0 : XM} {M : Mem} {pc : Nat} {L : List (Nat × Value)} {S : List Value} {idx : Nat} (F : XF x g y0) (d : decode (xmB y0) pc = .ok (.getfield idx, 3)) (hw : Cond.fieldLink (xmN y0).cls idx "ButterChurnModel" "rules" "[I" ∈ TB) (k9 : EX x g (xmL y0) M (pc + 3) L (.ref (ad g 47) :: S)) : EX x g (xmL y0) M pc L (.ref (ad g 38) :: S) := ex_getf F d inX8 ob_8 rfl (j := 16) (by decide) hw rfl k9
theorem gf_8_17 {x : XC} {g : XG} {y0 : XM} {M : Mem} {pc : Nat} {L : List (Nat × Value)} {S : List Value} {idx : Nat} (F : XF x g y0) (d : decode (xmB y0) pc = .ok (.getfield idx, 3)) (hw : Cond.fieldLink (xmN y0).cls idx "ButterChurnModel" "cows" "[I" ∈ TB) (k9 : EX x g (xmL y0) M (pc + 3) L (.ref (ad g 48) :: S)) : EX x g (xmL y0) M pc L (.ref (ad g 38) :: S) := ex_getf F d inX8 ob_8 rfl (j := 17) (by decide) hw rfl k9
theorem gf_8_18 {x : XC} {g : XG} {y0 : XM} {M : Mem} {pc : Nat} {L : List (Nat × Value)} {S : List Value} {idx : Nat} (F : XF x g y0) (d : decode (xmB y0) pc = .ok (.getfield idx, 3)) (hw : Cond.fieldLink (xmN y0).cls idx "ButterChurnModel" "cowMany" "I" ∈ TB) (k9 : EX x g (xmL y0) M (pc + 3) L (.int (M 38 18) :: S)) : EX x g (xmL y0) M pc L (.ref (ad g 38) :: S) := ex_getf F d inX8 ob_8 rfl (j := 18) (by decide) hw rfl k9
theorem pf_8_18 {x : XC} {g : XG} {y0 : XM} {M : Mem} {pc : Nat} {L : List (Nat × Value)} {S : List Value} {idx : Nat} {v : Int32} (F : XF x g y0) (d : decode (xmB y0) pc = .ok (.putfield idx, 3)) (hw : Cond.fieldLink (xmN y0).cls idx "ButterChurnModel" "cowMany" "I" ∈ TB) (k9 : EX x g (xmL y0) (mu M 38 18 v) (pc + 3) L S) : EX x g (xmL y0) M pc L (.int v :: .ref (ad g 38) :: S) := ex_putf F d inX8 tyX8 tyX8_ok nmX8 ob_8 rfl (j := 18) (by decide) hw rfl (ty := .int) (by decide +kernel) rfl rfl (Nat.le_of_ble_eq_true rfl) os_8_18 k9
theorem gf_8_19 {x : XC} {g : XG} {y0 : XM} {M : Mem} {pc : Nat} {L : List (Nat × Value)} {S : List Value} {idx : Nat} (F : XF x g y0) (d : decode (xmB y0) pc = .ok (.getfield idx, 3)) (hw : Cond.fieldLink (xmN y0).cls idx "ButterChurnModel" "readRules" "[I" ∈ TB) (k9 : EX x g (xmL y0) M (pc + 3) L (.ref (ad g 49) :: S)) : EX x g (xmL y0) M pc L (.ref (ad g 38) :: S) := ex_getf F d inX8 ob_8 rfl (j := 19) (by decide) hw rfl k9
theorem gf_8_20 {x : XC} {g : XG} {y0 : XM} {M : Mem} {pc : Nat} {L : List (Nat × Value)} {S : List Value} {idx : Nat} (F : XF x g y0) (d : decode (xmB y0) pc = .ok (.getfield idx, 3)) (hw : Cond.fieldLink (xmN y0).cls idx "ButterChurnModel" "readCows" "[I" ∈ TB) (k9 : EX x g (xmL y0) M (pc + 3) L (.ref (ad g 50) :: S)) : EX x g (xmL y0) M pc L (.ref (ad g 38) :: S) := ex_getf F d inX8 ob_8 rfl (j := 20) (by decide) hw rfl k9
theorem gf_8_21 {x : XC} {g : XG} {y0 : XM} {M : Mem} {pc : Nat} {L : List (Nat × Value)} {S : List Value} {idx : Nat} (F : XF x g y0) (d : decode (xmB y0) pc = .ok (.getfield idx, 3)) (hw : Cond.fieldLink (xmN y0).cls idx "ButterChurnModel" "readMany" "I" ∈ TB) (k9 : EX x g (xmL y0) M (pc + 3) L (.int (M 38 21) :: S)) : EX x g (xmL y0) M pc L (.ref (ad g 38) :: S) := ex_getf F d inX8 ob_8 rfl (j := 21) (by decide) hw rfl k9
theorem pf_8_21 {x : XC} {g : XG} {y0 : XM} {M : Mem} {pc : Nat} {L : List (Nat × Value)} {S : List Value} {idx : Nat} {v : Int32} (F : XF x g y0) (d : decode (xmB y0) pc = .ok (.putfield idx, 3)) (hw : Cond.fieldLink (xmN y0).cls idx "ButterChurnModel" "readMany" "I" ∈ TB) (k9 : EX x g (xmL y0) (mu M 38 21 v) (pc + 3) L S) : EX x g (xmL y0) M pc L (.int v :: .ref (ad g 38) :: S) := ex_putf F d inX8 tyX8 tyX8_ok nmX8 ob_8 rfl (j := 21) (by decide) hw rfl (ty := .int) (by decide +kernel) rfl rfl (Nat.le_of_ble_eq_true rfl) os_8_21 k9
theorem gf_8_22 {x : XC} {g : XG} {y0 : XM} {M : Mem} {pc : Nat} {L : List (Nat × Value)} {S : List Value} {idx : Nat} (F : XF x g y0) (d : decode (xmB y0) pc = .ok (.getfield idx, 3)) (hw : Cond.fieldLink (xmN y0).cls idx "ButterChurnModel" "toldOnes" "I" ∈ TB) (k9 : EX x g (xmL y0) M (pc + 3) L (.int (M 38 22) :: S)) : EX x g (xmL y0) M pc L (.ref (ad g 38) :: S) := ex_getf F d inX8 ob_8 rfl (j := 22) (by decide) hw rfl k9
theorem pf_8_22 {x : XC} {g : XG} {y0 : XM} {M : Mem} {pc : Nat} {L : List (Nat × Value)} {S : List Value} {idx : Nat} {v : Int32} (F : XF x g y0) (d : decode (xmB y0) pc = .ok (.putfield idx, 3)) (hw : Cond.fieldLink (xmN y0).cls idx "ButterChurnModel" "toldOnes" "I" ∈ TB) (k9 : EX x g (xmL y0) (mu M 38 22 v) (pc + 3) L S) : EX x g (xmL y0) M pc L (.int v :: .ref (ad g 38) :: S) := ex_putf F d inX8 tyX8 tyX8_ok nmX8 ob_8 rfl (j := 22) (by decide) hw rfl (ty := .int) (by decide +kernel) rfl rfl (Nat.le_of_ble_eq_true rfl) os_8_22 k9
theorem gf_8_23 {x : XC} {g : XG} {y0 : XM} {M : Mem} {pc : Nat} {L : List (Nat × Value)} {S : List Value} {idx : Nat} (F : XF x g y0) (d : decode (xmB y0) pc = .ok (.getfield idx, 3)) (hw : Cond.fieldLink (xmN y0).cls idx "ButterChurnModel" "state" "[I" ∈ TB) (k9 : EX x g (xmL y0) M (pc + 3) L (.ref (ad g 51) :: S)) : EX x g (xmL y0) M pc L (.ref (ad g 38) :: S) := ex_getf F d inX8 ob_8 rfl (j := 23) (by decide) hw rfl k9
theorem gf_8_24 {x : XC} {g : XG} {y0 : XM} {M : Mem} {pc : Nat} {L : List (Nat × Value)} {S : List Value} {idx : Nat} (F : XF x g y0) (d : decode (xmB y0) pc = .ok (.getfield idx, 3)) (hw : Cond.fieldLink (xmN y0).cls idx "ButterChurnModel" "isAwake" "Z" ∈ TB) (k9 : EX x g (xmL y0) M (pc + 3) L (.int (M 38 24) :: S)) : EX x g (xmL y0) M pc L (.ref (ad g 38) :: S) := ex_getf F d inX8 ob_8 rfl (j := 24) (by decide) hw rfl k9
theorem pf_8_24 {x : XC} {g : XG} {y0 : XM} {M : Mem} {pc : Nat} {L : List (Nat × Value)} {S : List Value} {idx : Nat} {v : Int32} (F : XF x g y0) (d : decode (xmB y0) pc = .ok (.putfield idx, 3)) (hw : Cond.fieldLink (xmN y0).cls idx "ButterChurnModel" "isAwake" "Z" ∈ TB) (hz : v = 0 ∨ v = 1) (k9 : EX x g (xmL y0) (mu M 38 24 v) (pc + 3) L S) : EX x g (xmL y0) M pc L (.int v :: .ref (ad g 38) :: S) := ex_putf F d inX8 tyX8 tyX8_ok nmX8 ob_8 rfl (j := 24) (by decide) hw rfl (ty := .boolean) (by decide +kernel) (by rcases hz with rfl | rfl <;> rfl) (by rcases hz with rfl | rfl <;> rfl) (Nat.le_of_ble_eq_true rfl) os_8_24 k9
theorem gf_8_25 {x : XC} {g : XG} {y0 : XM} {M : Mem} {pc : Nat} {L : List (Nat × Value)} {S : List Value} {idx : Nat} (F : XF x g y0) (d : decode (xmB y0) pc = .ok (.getfield idx, 3)) (hw : Cond.fieldLink (xmN y0).cls idx "ButterChurnModel" "pairs" "[I" ∈ TB) (k9 : EX x g (xmL y0) M (pc + 3) L (.ref (ad g 52) :: S)) : EX x g (xmL y0) M pc L (.ref (ad g 38) :: S) := ex_getf F d inX8 ob_8 rfl (j := 25) (by decide) hw rfl k9
theorem gf_8_26 {x : XC} {g : XG} {y0 : XM} {M : Mem} {pc : Nat} {L : List (Nat × Value)} {S : List Value} {idx : Nat} (F : XF x g y0) (d : decode (xmB y0) pc = .ok (.getfield idx, 3)) (hw : Cond.fieldLink (xmN y0).cls idx "ButterChurnModel" "best" "[I" ∈ TB) (k9 : EX x g (xmL y0) M (pc + 3) L (.ref (ad g 53) :: S)) : EX x g (xmL y0) M pc L (.ref (ad g 38) :: S) := ex_getf F d inX8 ob_8 rfl (j := 26) (by decide) hw rfl k9
theorem gf_8_27 {x : XC} {g : XG} {y0 : XM} {M : Mem} {pc : Nat} {L : List (Nat × Value)} {S : List Value} {idx : Nat} (F : XF x g y0) (d : decode (xmB y0) pc = .ok (.getfield idx, 3)) (hw : Cond.fieldLink (xmN y0).cls idx "ButterChurnModel" "seen" "[I" ∈ TB) (k9 : EX x g (xmL y0) M (pc + 3) L (.ref (ad g 54) :: S)) : EX x g (xmL y0) M pc L (.ref (ad g 38) :: S) := ex_getf F d inX8 ob_8 rfl (j := 27) (by decide) hw rfl k9
theorem gf_8_28 {x : XC} {g : XG} {y0 : XM} {M : Mem} {pc : Nat} {L : List (Nat × Value)} {S : List Value} {idx : Nat} (F : XF x g y0) (d : decode (xmB y0) pc = .ok (.getfield idx, 3)) (hw : Cond.fieldLink (xmN y0).cls idx "ButterChurnModel" "seenMany" "I" ∈ TB) (k9 : EX x g (xmL y0) M (pc + 3) L (.int (M 38 28) :: S)) : EX x g (xmL y0) M pc L (.ref (ad g 38) :: S) := ex_getf F d inX8 ob_8 rfl (j := 28) (by decide) hw rfl k9
theorem pf_8_28 {x : XC} {g : XG} {y0 : XM} {M : Mem} {pc : Nat} {L : List (Nat × Value)} {S : List Value} {idx : Nat} {v : Int32} (F : XF x g y0) (d : decode (xmB y0) pc = .ok (.putfield idx, 3)) (hw : Cond.fieldLink (xmN y0).cls idx "ButterChurnModel" "seenMany" "I" ∈ TB) (k9 : EX x g (xmL y0) (mu M 38 28 v) (pc + 3) L S) : EX x g (xmL y0) M pc L (.int v :: .ref (ad g 38) :: S) := ex_putf F d inX8 tyX8 tyX8_ok nmX8 ob_8 rfl (j := 28) (by decide) hw rfl (ty := .int) (by decide +kernel) rfl rfl (Nat.le_of_ble_eq_true rfl) os_8_28 k9
theorem gf_8_29 {x : XC} {g : XG} {y0 : XM} {M : Mem} {pc : Nat} {L : List (Nat × Value)} {S : List Value} {idx : Nat} (F : XF x g y0) (d : decode (xmB y0) pc = .ok (.getfield idx, 3)) (hw : Cond.fieldLink (xmN y0).cls idx "ButterChurnModel" "wet" "[I" ∈ TB) (k9 : EX x g (xmL y0) M (pc + 3) L (.ref (ad g 55) :: S)) : EX x g (xmL y0) M pc L (.ref (ad g 38) :: S) := ex_getf F d inX8 ob_8 rfl (j := 29) (by decide) hw rfl k9
theorem gf_8_30 {x : XC} {g : XG} {y0 : XM} {M : Mem} {pc : Nat} {L : List (Nat × Value)} {S : List Value} {idx : Nat} (F : XF x g y0) (d : decode (xmB y0) pc = .ok (.getfield idx, 3)) (hw : Cond.fieldLink (xmN y0).cls idx "ButterChurnModel" "isKept" "[Z" ∈ TB) (k9 : EX x g (xmL y0) M (pc + 3) L (.ref (ad g 56) :: S)) : EX x g (xmL y0) M pc L (.ref (ad g 38) :: S) := ex_getf F d inX8 ob_8 rfl (j := 30) (by decide) hw rfl k9
theorem gf_8_31 {x : XC} {g : XG} {y0 : XM} {M : Mem} {pc : Nat} {L : List (Nat × Value)} {S : List Value} {idx : Nat} (F : XF x g y0) (d : decode (xmB y0) pc = .ok (.getfield idx, 3)) (hw : Cond.fieldLink (xmN y0).cls idx "ButterChurnModel" "lanes" "[I" ∈ TB) (k9 : EX x g (xmL y0) M (pc + 3) L (.ref (ad g 57) :: S)) : EX x g (xmL y0) M pc L (.ref (ad g 38) :: S) := ex_getf F d inX8 ob_8 rfl (j := 31) (by decide) hw rfl k9
theorem gf_8_32 {x : XC} {g : XG} {y0 : XM} {M : Mem} {pc : Nat} {L : List (Nat × Value)} {S : List Value} {idx : Nat} (F : XF x g y0) (d : decode (xmB y0) pc = .ok (.getfield idx, 3)) (hw : Cond.fieldLink (xmN y0).cls idx "ButterChurnModel" "lengths" "[I" ∈ TB) (k9 : EX x g (xmL y0) M (pc + 3) L (.ref (ad g 58) :: S)) : EX x g (xmL y0) M pc L (.ref (ad g 38) :: S) := ex_getf F d inX8 ob_8 rfl (j := 32) (by decide) hw rfl k9
theorem gf_8_33 {x : XC} {g : XG} {y0 : XM} {M : Mem} {pc : Nat} {L : List (Nat × Value)} {S : List Value} {idx : Nat} (F : XF x g y0) (d : decode (xmB y0) pc = .ok (.getfield idx, 3)) (hw : Cond.fieldLink (xmN y0).cls idx "ButterChurnModel" "cells" "[I" ∈ TB) (k9 : EX x g (xmL y0) M (pc + 3) L (.ref (ad g 59) :: S)) : EX x g (xmL y0) M pc L (.ref (ad g 38) :: S) := ex_getf F d inX8 ob_8 rfl (j := 33) (by decide) hw rfl k9
theorem gf_8_34 {x : XC} {g : XG} {y0 : XM} {M : Mem} {pc : Nat} {L : List (Nat × Value)} {S : List Value} {idx : Nat} (F : XF x g y0) (d : decode (xmB y0) pc = .ok (.getfield idx, 3)) (hw : Cond.fieldLink (xmN y0).cls idx "ButterChurnModel" "torn" "I" ∈ TB) (k9 : EX x g (xmL y0) M (pc + 3) L (.int (M 38 34) :: S)) : EX x g (xmL y0) M pc L (.ref (ad g 38) :: S) := ex_getf F d inX8 ob_8 rfl (j := 34) (by decide) hw rfl k9
theorem pf_8_34 {x : XC} {g : XG} {y0 : XM} {M : Mem} {pc : Nat} {L : List (Nat × Value)} {S : List Value} {idx : Nat} {v : Int32} (F : XF x g y0) (d : decode (xmB y0) pc = .ok (.putfield idx, 3)) (hw : Cond.fieldLink (xmN y0).cls idx "ButterChurnModel" "torn" "I" ∈ TB) (k9 : EX x g (xmL y0) (mu M 38 34 v) (pc + 3) L S) : EX x g (xmL y0) M pc L (.int v :: .ref (ad g 38) :: S) := ex_putf F d inX8 tyX8 tyX8_ok nmX8 ob_8 rfl (j := 34) (by decide) hw rfl (ty := .int) (by decide +kernel) rfl rfl (Nat.le_of_ble_eq_true rfl) os_8_34 k9
abbrev YX0_init : XM := (yX0_init, cX0_init, 1, none, 1, 12)
abbrev YX0_offer : XM := (yX0_offer, cX0_offer, 5, none, 0, 0)
abbrev YX0_tell : XM := (yX0_tell, cX0_tell, 2, (some .int), 0, 0)
abbrev YX1_init : XM := (yX1_init, cX1_init, 1, none, 1, 12)
abbrev YX6_litresOf : XM := (yX6_litresOf, cX6_litresOf, 4, (some .int), 0, 0)
abbrev YX6_hardOf : XM := (yX6_hardOf, cX6_hardOf, 4, (some .int), 1, 23)
abbrev YX1_fillWith : XM := (yX1_fillWith, cX1_fillWith, 5, none, 2, 46)
abbrev YX1_becomeLike : XM := (yX1_becomeLike, cX1_becomeLike, 2, none, 1, 26)
abbrev YX1_halve : XM := (yX1_halve, cX1_halve, 2, none, 0, 0)
abbrev YX1_hasCome : XM := (yX1_hasCome, cX1_hasCome, 1, (some .boolean), 0, 0)
abbrev YX1_isSwollen : XM := (yX1_isSwollen, cX1_isSwollen, 3, (some .boolean), 1, 20)
abbrev YX6_base : XM := (yX6_base, cX6_base, 1, (some .int), 0, 0)
abbrev YJ9_floorDiv_7cf53 : XM := (yJ9_floorDiv_7cf53, cJ9_floorDiv_7cf53, 3, (some .int), 0, 0)
abbrev YX1_hardness : XM := (yX1_hardness, cX1_hardness, 3, (some .int), 1, 22)
abbrev YX1_beatIn : XM := (yX1_beatIn, cX1_beatIn, 3, none, 1, 21)
abbrev YX1_rate : XM := (yX1_rate, cX1_rate, 4, (some .int), 2, 44)
abbrev YX1_joinDrops : XM := (yX1_joinDrops, cX1_joinDrops, 4, none, 0, 0)
abbrev YX1_fatFrom : XM := (yX1_fatFrom, cX1_fatFrom, 4, (some .int), 1, 21)
abbrev YX1_breakIfDue : XM := (yX1_breakIfDue, cX1_breakIfDue, 3, none, 2, 44)
abbrev YX1_turnOnce : XM := (yX1_turnOnce, cX1_turnOnce, 5, (some .boolean), 3, 67)
abbrev YX1_left : XM := (yX1_left, cX1_left, 2, (some .int), 2, 44)
abbrev YX1_isMostlyGreatest : XM := (yX1_isMostlyGreatest, cX1_isMostlyGreatest, 1, (some .boolean), 2, 44)
abbrev YX1_dropsOf : XM := (yX1_dropsOf, cX1_dropsOf, 2, (some .int), 0, 0)
abbrev YX1_outcome : XM := (yX1_outcome, cX1_outcome, 2, (some .int), 3, 65)
abbrev YX1_tell : XM := (yX1_tell, cX1_tell, 3, (some .int), 4, 86)
abbrev YX2_init : XM := (yX2_init, cX2_init, 1, none, 1, 40)
abbrev YX5_init : XM := (yX5_init, cX5_init, 1, none, 1, 12)
abbrev YX6_init : XM := (yX6_init, cX6_init, 1, none, 1, 40)
abbrev YX3_init : XM := (yX3_init, cX3_init, 1, none, 1, 40)
abbrev YX6_becomeFirst : XM := (yX6_becomeFirst, cX6_becomeFirst, 1, none, 1, 26)
abbrev YX5_rewind : XM := (yX5_rewind, cX5_rewind, 1, none, 0, 0)
abbrev YX5_byteAt : XM := (yX5_byteAt, cX5_byteAt, 2, (some .int), 0, 0)
abbrev YX5_kindAt : XM := (yX5_kindAt, cX5_kindAt, 3, (some .int), 1, 21)
abbrev YX5_takeNumber : XM := (yX5_takeNumber, cX5_takeNumber, 2, none, 1, 21)
abbrev YX5_advance : XM := (yX5_advance, cX5_advance, 2, none, 2, 43)
abbrev YX3_refuse : XM := (yX3_refuse, cX3_refuse, 2, none, 0, 0)
abbrev YJ0_coder_7d493 : XM := (yJ0_coder_7d493, cJ0_coder_7d493, 1, (some .byte), 0, 0)
abbrev YJ0_length_8abf5 : XM := (yJ0_length_8abf5, cJ0_length_8abf5, 1, (some .int), 1, 20)
abbrev YJ0_isLatin1_aae02 : XM := (yJ0_isLatin1_aae02, cJ0_isLatin1_aae02, 1, (some .boolean), 0, 0)
abbrev YJ3_checkIndex_8e157 : XM := (yJ3_checkIndex_8e157, cJ3_checkIndex_8e157, 3, (some .int), 1, 40)
abbrev YJ0_checkIndex_df160 : XM := (yJ0_checkIndex_df160, cJ0_checkIndex_df160, 2, none, 2, 62)
abbrev YJ1_charAt_3b067 : XM := (yJ1_charAt_3b067, cJ1_charAt_3b067, 2, (some .char), 3, 83)
abbrev YJ2_length_9d52b : XM := (yJ2_length_9d52b, cJ2_length_9d52b, 1, (some .int), 0, 0)
abbrev YJ2_checkIndex_2214a : XM := (yJ2_checkIndex_2214a, cJ2_checkIndex_2214a, 2, none, 3, 83)
abbrev YJ2_getChar_3b067 : XM := (yJ2_getChar_3b067, cJ2_getChar_3b067, 2, (some .char), 1, 40)
abbrev YJ2_charAt_3b067 : XM := (yJ2_charAt_3b067, cJ2_charAt_3b067, 2, (some .char), 4, 104)
abbrev YJ0_charAt_5068e : XM := (yJ0_charAt_5068e, cJ0_charAt_5068e, 2, (some .char), 5, 125)
abbrev YX5_spells : XM := (yX5_spells, cX5_spells, 3, (some .boolean), 6, 146)
abbrev YX3_lineNamed : XM := (yX3_lineNamed, cX3_lineNamed, 1, (some .int), 7, 168)
abbrev YX6_hasAllCows : XM := (yX6_hasAllCows, cX6_hasAllCows, 1, (some .boolean), 0, 0)
abbrev YX3_beginLine : XM := (yX3_beginLine, cX3_beginLine, 2, none, 8, 188)
abbrev YX7_outside : XM := (yX7_outside, cX7_outside, 3, (some .boolean), 0, 0)
abbrev YX6_put : XM := (yX6_put, cX6_put, 3, none, 0, 0)
abbrev YX3_takeNumber : XM := (yX3_takeNumber, cX3_takeNumber, 3, none, 1, 40)
abbrev YX3_endLine : XM := (yX3_endLine, cX3_endLine, 1, none, 1, 21)
abbrev YX3_takeToken : XM := (yX3_takeToken, cX3_takeToken, 1, none, 9, 209)
abbrev YX3_readAll : XM := (yX3_readAll, cX3_readAll, 2, (some .int), 10, 229)
abbrev YX4_init : XM := (yX4_init, cX4_init, 1, none, 1, 12)
abbrev YX4_isThere : XM := (yX4_isThere, cX4_isThere, 1, (some .boolean), 0, 0)
abbrev YX4_renew : XM := (yX4_renew, cX4_renew, 4, none, 0, 0)
abbrev YX4_put : XM := (yX4_put, cX4_put, 3, (some .int), 1, 20)
abbrev YX4_cellAt : XM := (yX4_cellAt, cX4_cellAt, 2, (some .int), 0, 0)
abbrev YX4_pairsWhole : XM := (yX4_pairsWhole, cX4_pairsWhole, 4, (some .int), 1, 21)
abbrev YX4_faultAs : XM := (yX4_faultAs, cX4_faultAs, 2, (some .int), 1, 20)
abbrev YX5_put : XM := (yX5_put, cX5_put, 4, (some .boolean), 0, 0)
abbrev YX6_becomeLike : XM := (yX6_becomeLike, cX6_becomeLike, 2, none, 1, 26)
abbrev YX6_isGood : XM := (yX6_isGood, cX6_isGood, 2, (some .boolean), 0, 0)
abbrev YX6_hasCow : XM := (yX6_hasCow, cX6_hasCow, 2, (some .boolean), 0, 0)
abbrev YX6_allCows : XM := (yX6_allCows, cX6_allCows, 1, (some .int), 0, 0)
abbrev YX6_hasCows : XM := (yX6_hasCows, cX6_hasCows, 2, (some .boolean), 1, 20)
abbrev YX7_init : XM := (yX7_init, cX7_init, 1, none, 1, 40)
abbrev YX7_feed : XM := (yX7_feed, cX7_feed, 3, (some .int), 1, 23)
abbrev YX7_end : XM := (yX7_end, cX7_end, 3, (some .int), 1, 22)
abbrev YX7_dairy : XM := (yX7_dairy, cX7_dairy, 6, (some .int), 11, 250)
abbrev YX7_fault : XM := (yX7_fault, cX7_fault, 1, (some .int), 0, 0)
abbrev YX7_rule : XM := (yX7_rule, cX7_rule, 2, (some .int), 0, 0)
abbrev YX7_cow : XM := (yX7_cow, cX7_cow, 3, (some .int), 1, 22)
abbrev YX7_feeds : XM := (yX7_feeds, cX7_feeds, 4, (some .int), 1, 22)
abbrev YX7_fill : XM := (yX7_fill, cX7_fill, 3, (some .int), 3, 70)
abbrev YX7_isBadTurn : XM := (yX7_isBadTurn, cX7_isBadTurn, 2, (some .boolean), 1, 22)
abbrev YX7_turnChurn : XM := (yX7_turnChurn, cX7_turnChurn, 5, (some .int), 4, 91)
abbrev YX7_turn : XM := (yX7_turn, cX7_turn, 3, (some .int), 5, 115)
abbrev YX7_warm : XM := (yX7_warm, cX7_warm, 3, (some .int), 1, 22)
abbrev YX7_half : XM := (yX7_half, cX7_half, 1, (some .int), 1, 21)
abbrev YX7_now : XM := (yX7_now, cX7_now, 2, (some .int), 5, 108)
abbrev YX7_drops : XM := (yX7_drops, cX7_drops, 2, (some .int), 1, 21)
abbrev YX7_isBadRun : XM := (yX7_isBadRun, cX7_isBadRun, 4, (some .boolean), 2, 41)
abbrev YX7_run : XM := (yX7_run, cX7_run, 7, (some .int), 5, 108)
abbrev YX7_turnTrialTillCome : XM := (yX7_turnTrialTillCome, cX7_turnTrialTillCome, 5, (some .int), 4, 91)
abbrev YX7_comes : XM := (yX7_comes, cX7_comes, 4, (some .int), 5, 115)
abbrev YX7_findBest : XM := (yX7_findBest, cX7_findBest, 5, none, 5, 115)
abbrev YX7_plan : XM := (yX7_plan, cX7_plan, 3, (some .int), 6, 139)
abbrev YJ6_bitCount_0f7a4 : XM := (yJ6_bitCount_0f7a4, cJ6_bitCount_0f7a4, 1, (some .int), 0, 0)
abbrev YX7_without : XM := (yX7_without, cX7_without, 6, (some .int), 2, 46)
abbrev YX7_saw : XM := (yX7_saw, cX7_saw, 3, (some .int), 2, 41)
abbrev YX7_forget : XM := (yX7_forget, cX7_forget, 2, (some .int), 0, 0)
abbrev YX7_isAsSeen : XM := (yX7_isAsSeen, cX7_isAsSeen, 7, (some .boolean), 5, 115)
abbrev YX7_why : XM := (yX7_why, cX7_why, 5, (some .int), 6, 141)
abbrev YX7_tryDeed : XM := (yX7_tryDeed, cX7_tryDeed, 2, none, 2, 47)
abbrev YX7_next : XM := (yX7_next, cX7_next, 7, (some .int), 5, 115)
abbrev YX7_over : XM := (yX7_over, cX7_over, 3, (some .int), 4, 91)
abbrev YX7_isBadWash : XM := (yX7_isBadWash, cX7_isBadWash, 2, (some .boolean), 1, 22)
abbrev YX7_power : XM := (yX7_power, cX7_power, 6, (some .long), 0, 0)
abbrev YX7_lowest : XM := (yX7_lowest, cX7_lowest, 12, (some .long), 0, 0)
abbrev YX7_wash : XM := (yX7_wash, cX7_wash, 5, (some .long), 2, 43)
abbrev YX7_isBadShare : XM := (yX7_isBadShare, cX7_isBadShare, 2, (some .boolean), 1, 22)
abbrev YX7_washes : XM := (yX7_washes, cX7_washes, 6, (some .int), 2, 43)
abbrev YX7_split : XM := (yX7_split, cX7_split, 7, (some .int), 2, 43)
abbrev YX7_isBadWater : XM := (yX7_isBadWater, cX7_isBadWater, 2, (some .boolean), 1, 22)
abbrev YX7_workWater : XM := (yX7_workWater, cX7_workWater, 6, none, 0, 0)
abbrev YX7_worked : XM := (yX7_worked, cX7_worked, 4, (some .int), 2, 43)
abbrev YX7_keeps : XM := (yX7_keeps, cX7_keeps, 5, (some .int), 2, 43)
abbrev YX7_isBadRod : XM := (yX7_isBadRod, cX7_isBadRod, 3, (some .boolean), 1, 22)
abbrev YX7_chancesAbove : XM := (yX7_chancesAbove, cX7_chancesAbove, 4, (some .int), 0, 0)
abbrev YX7_rod : XM := (yX7_rod, cX7_rod, 6, (some .int), 2, 44)
abbrev YX7_near : XM := (yX7_near, cX7_near, 8, (some .int), 2, 44)
abbrev YX7_witch : XM := (yX7_witch, cX7_witch, 11, (some .long), 1, 31)
abbrev YX7_imageAt : XM := (yX7_imageAt, cX7_imageAt, 2, (some (.object "ButterChurn$Image")), 0, 0)
abbrev YX7_keep : XM := (yX7_keep, cX7_keep, 4, (some .int), 2, 47)
abbrev YX7_back : XM := (yX7_back, cX7_back, 3, (some .int), 2, 47)
abbrev YX7_sheetAt : XM := (yX7_sheetAt, cX7_sheetAt, 2, (some (.object "ButterChurn$Sheet")), 0, 0)
abbrev YX7_sheet : XM := (yX7_sheet, cX7_sheet, 5, (some .int), 1, 23)
abbrev YX7_lay : XM := (yX7_lay, cX7_lay, 6, (some .int), 2, 42)
abbrev YX7_read : XM := (yX7_read, cX7_read, 8, (some .int), 5, 115)
abbrev YX7_torn : XM := (yX7_torn, cX7_torn, 1, (some .int), 0, 0)
abbrev YX7_imagesThere : XM := (yX7_imagesThere, cX7_imagesThere, 6, (some .int), 0, 0)
abbrev YX7_cellsOf : XM := (yX7_cellsOf, cX7_cellsOf, 1, (some .int), 1, 20)
abbrev YX7_count : XM := (yX7_count, cX7_count, 2, (some .int), 2, 40)
abbrev YX8_init : XM := (yX8_init, cX8_init, 1, none, 1, 12)
abbrev YX8_in : XM := (yX8_in, cX8_in, 6, (some .boolean), 0, 0)
abbrev YX8_feed : XM := (yX8_feed, cX8_feed, 4, (some .int), 0, 0)
abbrev YX8_end : XM := (yX8_end, cX8_end, 3, (some .int), 1, 25)
abbrev YX8_byteAt : XM := (yX8_byteAt, cX8_byteAt, 2, (some .int), 0, 0)
abbrev YX8_fails : XM := (yX8_fails, cX8_fails, 2, none, 0, 0)
abbrev YX8_nameHere : XM := (yX8_nameHere, cX8_nameHere, 4, (some .int), 1, 21)
abbrev YX8_step : XM := (yX8_step, cX8_step, 2, none, 1, 25)
abbrev YX8_number : XM := (yX8_number, cX8_number, 4, (some .int), 2, 46)
abbrev YX8_readLine : XM := (yX8_readLine, cX8_readLine, 3, none, 3, 69)
abbrev YX8_fills : XM := (yX8_fills, cX8_fills, 7, none, 1, 25)
abbrev YX8_dairy : XM := (yX8_dairy, cX8_dairy, 3, (some .int), 4, 91)
abbrev YX8_fault : XM := (yX8_fault, cX8_fault, 1, (some .int), 0, 0)
abbrev YX8_rule : XM := (yX8_rule, cX8_rule, 2, (some .int), 1, 25)
abbrev YX8_isCow : XM := (yX8_isCow, cX8_isCow, 2, (some .boolean), 1, 25)
abbrev YX8_cow : XM := (yX8_cow, cX8_cow, 3, (some .int), 2, 46)
abbrev YX8_feeds : XM := (yX8_feeds, cX8_feeds, 4, (some .int), 2, 46)
abbrev YX8_awake : XM := (yX8_awake, cX8_awake, 1, none, 0, 0)
abbrev YX8_copies : XM := (yX8_copies, cX8_copies, 4, none, 0, 0)
abbrev YX8_hardness : XM := (yX8_hardness, cX8_hardness, 5, (some .int), 0, 0)
abbrev YX8_fatFrom : XM := (yX8_fatFrom, cX8_fatFrom, 5, (some .int), 0, 0)
abbrev YX8_isSwollen : XM := (yX8_isSwollen, cX8_isSwollen, 2, (some .boolean), 0, 0)
abbrev YX8_joins : XM := (yX8_joins, cX8_joins, 6, none, 1, 24)
abbrev YX8_turns : XM := (yX8_turns, cX8_turns, 5, (some .boolean), 2, 49)
abbrev YX8_isWarm : XM := (yX8_isWarm, cX8_isWarm, 1, (some .boolean), 1, 25)
abbrev YX8_isPace : XM := (yX8_isPace, cX8_isPace, 1, (some .boolean), 1, 25)
abbrev YX8_areCows : XM := (yX8_areCows, cX8_areCows, 2, (some .boolean), 1, 25)
abbrev YX8_fill : XM := (yX8_fill, cX8_fill, 3, (some .int), 2, 51)
abbrev YX8_turn : XM := (yX8_turn, cX8_turn, 5, (some .int), 3, 73)
abbrev YX8_warm : XM := (yX8_warm, cX8_warm, 3, (some .int), 2, 45)
abbrev YX8_halves : XM := (yX8_halves, cX8_halves, 3, none, 0, 0)
abbrev YX8_half : XM := (yX8_half, cX8_half, 1, (some .int), 1, 22)
abbrev YX8_isOver : XM := (yX8_isOver, cX8_isOver, 2, (some .boolean), 1, 24)
abbrev YX8_left : XM := (yX8_left, cX8_left, 2, (some .int), 1, 24)
abbrev YX8_which : XM := (yX8_which, cX8_which, 2, (some .int), 2, 45)
abbrev YX8_told : XM := (yX8_told, cX8_told, 3, (some .int), 3, 66)
abbrev YX8_now : XM := (yX8_now, cX8_now, 2, (some .int), 4, 88)
abbrev YX8_drops : XM := (yX8_drops, cX8_drops, 2, (some .int), 1, 25)
abbrev YX8_run : XM := (yX8_run, cX8_run, 7, (some .int), 4, 88)
abbrev YX8_tillCome : XM := (yX8_tillCome, cX8_tillCome, 4, (some .int), 3, 73)
abbrev YX8_comes : XM := (yX8_comes, cX8_comes, 4, (some .int), 4, 96)
abbrev YX8_layPlan : XM := (yX8_layPlan, cX8_layPlan, 10, (some .boolean), 4, 96)
abbrev YX8_plan : XM := (yX8_plan, cX8_plan, 3, (some .int), 5, 125)
abbrev YX8_bitsOf : XM := (yX8_bitsOf, cX8_bitsOf, 3, (some .int), 0, 0)
abbrev YX8_without : XM := (yX8_without, cX8_without, 6, (some .int), 2, 51)
abbrev YX8_saw : XM := (yX8_saw, cX8_saw, 3, (some .int), 2, 46)
abbrev YX8_forget : XM := (yX8_forget, cX8_forget, 2, (some .int), 0, 0)
abbrev YX8_isSo : XM := (yX8_isSo, cX8_isSo, 6, (some .boolean), 4, 96)
abbrev YX8_why : XM := (yX8_why, cX8_why, 7, (some .int), 5, 121)
abbrev YX8_next : XM := (yX8_next, cX8_next, 8, (some .int), 4, 96)
abbrev YX8_over : XM := (yX8_over, cX8_over, 3, (some .int), 3, 73)
abbrev YX8_lowest : XM := (yX8_lowest, cX8_lowest, 11, (some .long), 0, 0)
abbrev YX8_power : XM := (yX8_power, cX8_power, 6, (some .long), 0, 0)
abbrev YX8_isWash : XM := (yX8_isWash, cX8_isWash, 2, (some .boolean), 1, 25)
abbrev YX8_wash : XM := (yX8_wash, cX8_wash, 5, (some .long), 2, 46)
abbrev YX8_washes : XM := (yX8_washes, cX8_washes, 6, (some .int), 2, 46)
abbrev YX8_split : XM := (yX8_split, cX8_split, 5, (some .int), 2, 46)
abbrev YX8_layWet : XM := (yX8_layWet, cX8_layWet, 6, (some .boolean), 1, 25)
abbrev YX8_worked : XM := (yX8_worked, cX8_worked, 4, (some .int), 2, 50)
abbrev YX8_keeps : XM := (yX8_keeps, cX8_keeps, 5, (some .int), 2, 50)
abbrev YX8_isRod : XM := (yX8_isRod, cX8_isRod, 3, (some .boolean), 1, 25)
abbrev YX8_above : XM := (yX8_above, cX8_above, 4, (some .int), 0, 0)
abbrev YX8_rod : XM := (yX8_rod, cX8_rod, 6, (some .int), 2, 47)
abbrev YX8_near : XM := (yX8_near, cX8_near, 8, (some .int), 2, 47)
abbrev YX8_witch : XM := (yX8_witch, cX8_witch, 11, (some .long), 1, 30)
abbrev YX8_keep : XM := (yX8_keep, cX8_keep, 3, (some .int), 1, 25)
abbrev YX8_back : XM := (yX8_back, cX8_back, 2, (some .int), 1, 25)
abbrev YX8_sheet : XM := (yX8_sheet, cX8_sheet, 5, (some .int), 1, 25)
abbrev YX8_lay : XM := (yX8_lay, cX8_lay, 4, (some .int), 1, 25)
abbrev YX8_read : XM := (yX8_read, cX8_read, 10, (some .int), 3, 73)
abbrev YX8_torn : XM := (yX8_torn, cX8_torn, 1, (some .int), 0, 0)
abbrev YX8_count : XM := (yX8_count, cX8_count, 2, (some .int), 0, 0)
abbrev YJ9_max_7cf53 : XM := (yJ9_max_7cf53, cJ9_max_7cf53, 2, (some .int), 0, 0)
abbrev YJ9_min_7cf53 : XM := (yJ9_min_7cf53, cJ9_min_7cf53, 2, (some .int), 0, 0)
theorem fl_J0_1053 : Cond.fieldLink RJ0 1053 "jdk/internal/util/Preconditions" "SIOOBE_FORMATTER" "Ljava/util/function/BiFunction;" ∈ TB := tb_2 122 (by decide +kernel) (by decide +kernel)
theorem fl_J0_15 : Cond.fieldLink RJ0 15 "java/lang/String" "coder" "B" ∈ TB := tb_5 228 (by decide +kernel) (by decide +kernel)
theorem fl_J0_38 : Cond.fieldLink RJ0 38 "java/lang/String" "COMPACT_STRINGS" "Z" ∈ TB := tb_2 106 (by decide +kernel) (by decide +kernel)
theorem fl_J0_9 : Cond.fieldLink RJ0 9 "java/lang/String" "value" "[B" ∈ TB := tb_5 227 (by decide +kernel) (by decide +kernel)
theorem fl_J2_44 : Cond.fieldLink RJ2 44 "java/lang/StringUTF16" "$assertionsDisabled" "Z" ∈ TB := tb_2 140 (by decide +kernel) (by decide +kernel)
theorem fl_J2_59 : Cond.fieldLink RJ2 59 "java/lang/StringUTF16" "HI_BYTE_SHIFT" "I" ∈ TB := tb_2 142 (by decide +kernel) (by decide +kernel)
theorem fl_J2_63 : Cond.fieldLink RJ2 63 "java/lang/StringUTF16" "LO_BYTE_SHIFT" "I" ∈ TB := tb_2 144 (by decide +kernel) (by decide +kernel)
theorem fl_X0_13 : Cond.fieldLink RX0 13 "ButterChurn$Best" "left" "I" ∈ TB := tb_1 177 (by decide +kernel) (by decide +kernel)
theorem fl_X0_17 : Cond.fieldLink RX0 17 "ButterChurn$Best" "turns" "I" ∈ TB := tb_1 176 (by decide +kernel) (by decide +kernel)
theorem fl_X0_20 : Cond.fieldLink RX0 20 "ButterChurn$Best" "warmth" "I" ∈ TB := tb_1 174 (by decide +kernel) (by decide +kernel)
theorem fl_X0_23 : Cond.fieldLink RX0 23 "ButterChurn$Best" "pace" "I" ∈ TB := tb_1 175 (by decide +kernel) (by decide +kernel)
theorem fl_X0_7 : Cond.fieldLink RX0 7 "ButterChurn$Best" "there" "Z" ∈ TB := tb_1 172 (by decide +kernel) (by decide +kernel)
theorem fl_X1_11 : Cond.fieldLink RX1 11 "ButterChurn$Churn" "drops" "[I" ∈ TB := tb_1 141 (by decide +kernel) (by decide +kernel)
theorem fl_X1_15 : Cond.fieldLink RX1 15 "ButterChurn$Churn" "come" "I" ∈ TB := tb_1 150 (by decide +kernel) (by decide +kernel)
theorem fl_X1_25 : Cond.fieldLink RX1 25 "ButterChurn$Churn" "litres" "I" ∈ TB := tb_1 142 (by decide +kernel) (by decide +kernel)
theorem fl_X1_31 : Cond.fieldLink RX1 31 "ButterChurn$Churn" "hard" "I" ∈ TB := tb_1 146 (by decide +kernel) (by decide +kernel)
theorem fl_X1_34 : Cond.fieldLink RX1 34 "ButterChurn$Churn" "warmth" "I" ∈ TB := tb_1 145 (by decide +kernel) (by decide +kernel)
theorem fl_X1_37 : Cond.fieldLink RX1 37 "ButterChurn$Churn" "air" "I" ∈ TB := tb_1 147 (by decide +kernel) (by decide +kernel)
theorem fl_X1_40 : Cond.fieldLink RX1 40 "ButterChurn$Churn" "turns" "I" ∈ TB := tb_1 148 (by decide +kernel) (by decide +kernel)
theorem fl_X1_43 : Cond.fieldLink RX1 43 "ButterChurn$Told" "litreDrops" "[I" ∈ TB := tb_1 47 (by decide +kernel) (by decide +kernel)
theorem fl_X1_52 : Cond.fieldLink RX1 52 "ButterChurn$Told" "rules" "[I" ∈ TB := tb_1 43 (by decide +kernel) (by decide +kernel)
theorem fl_X2_10 : Cond.fieldLink RX2 10 "ButterChurn$Image" "churn" "LButterChurn$Churn;" ∈ TB := tb_1 198 (by decide +kernel) (by decide +kernel)
theorem fl_X3_10 : Cond.fieldLink RX3 10 "ButterChurn$Reading" "tape" "LButterChurn$Tape;" ∈ TB := tb_1 106 (by decide +kernel) (by decide +kernel)
theorem fl_X3_102 : Cond.fieldLink RX3 102 "ButterChurn$Reading" "LEAST" "[I" ∈ TB := tb_2 163 (by decide +kernel) (by decide +kernel)
theorem fl_X3_105 : Cond.fieldLink RX3 105 "ButterChurn$Reading" "MOST" "[I" ∈ TB := tb_2 165 (by decide +kernel) (by decide +kernel)
theorem fl_X3_108 : Cond.fieldLink RX3 108 "ButterChurn$Told" "rules" "[I" ∈ TB := tb_1 45 (by decide +kernel) (by decide +kernel)
theorem fl_X3_111 : Cond.fieldLink RX3 111 "ButterChurn$Tape" "number" "I" ∈ TB := tb_1 89 (by decide +kernel) (by decide +kernel)
theorem fl_X3_124 : Cond.fieldLink RX3 124 "ButterChurn$Told" "cows" "I" ∈ TB := tb_1 54 (by decide +kernel) (by decide +kernel)
theorem fl_X3_127 : Cond.fieldLink RX3 127 "ButterChurn$Tape" "place" "I" ∈ TB := tb_1 86 (by decide +kernel) (by decide +kernel)
theorem fl_X3_130 : Cond.fieldLink RX3 130 "ButterChurn$Reading" "faultPlace" "I" ∈ TB := tb_1 117 (by decide +kernel) (by decide +kernel)
theorem fl_X3_19 : Cond.fieldLink RX3 19 "ButterChurn$Reading" "draft" "LButterChurn$Told;" ∈ TB := tb_1 108 (by decide +kernel) (by decide +kernel)
theorem fl_X3_29 : Cond.fieldLink RX3 29 "ButterChurn$Reading" "line" "I" ∈ TB := tb_1 110 (by decide +kernel) (by decide +kernel)
theorem fl_X3_33 : Cond.fieldLink RX3 33 "ButterChurn$Reading" "linesRead" "I" ∈ TB := tb_1 112 (by decide +kernel) (by decide +kernel)
theorem fl_X3_36 : Cond.fieldLink RX3 36 "ButterChurn$Reading" "linesMet" "I" ∈ TB := tb_1 113 (by decide +kernel) (by decide +kernel)
theorem fl_X3_39 : Cond.fieldLink RX3 39 "ButterChurn$Reading" "fault" "I" ∈ TB := tb_1 114 (by decide +kernel) (by decide +kernel)
theorem fl_X3_45 : Cond.fieldLink RX3 45 "ButterChurn$Tape" "kind" "I" ∈ TB := tb_1 83 (by decide +kernel) (by decide +kernel)
theorem fl_X3_55 : Cond.fieldLink RX3 55 "ButterChurn$Reading" "NUMBERS" "[I" ∈ TB := tb_2 83 (by decide +kernel) (by decide +kernel)
theorem fl_X3_62 : Cond.fieldLink RX3 62 "ButterChurn$Reading" "numbersRead" "I" ∈ TB := tb_1 111 (by decide +kernel) (by decide +kernel)
theorem fl_X3_99 : Cond.fieldLink RX3 99 "ButterChurn$Reading" "FIRST_TOLD" "[I" ∈ TB := tb_2 161 (by decide +kernel) (by decide +kernel)
theorem fl_X4_13 : Cond.fieldLink RX4 13 "ButterChurn$Sheet" "size" "I" ∈ TB := tb_1 215 (by decide +kernel) (by decide +kernel)
theorem fl_X4_17 : Cond.fieldLink RX4 17 "ButterChurn$Sheet" "lane" "I" ∈ TB := tb_1 214 (by decide +kernel) (by decide +kernel)
theorem fl_X4_9 : Cond.fieldLink RX4 9 "ButterChurn$Sheet" "cells" "[I" ∈ TB := tb_1 213 (by decide +kernel) (by decide +kernel)
theorem fl_X5_13 : Cond.fieldLink RX5 13 "ButterChurn$Tape" "length" "I" ∈ TB := tb_1 81 (by decide +kernel) (by decide +kernel)
theorem fl_X5_17 : Cond.fieldLink RX5 17 "ButterChurn$Tape" "behind" "I" ∈ TB := tb_1 87 (by decide +kernel) (by decide +kernel)
theorem fl_X5_20 : Cond.fieldLink RX5 20 "ButterChurn$Tape" "place" "I" ∈ TB := tb_1 85 (by decide +kernel) (by decide +kernel)
theorem fl_X5_27 : Cond.fieldLink RX5 27 "ButterChurn$Tape" "kind" "I" ∈ TB := tb_1 84 (by decide +kernel) (by decide +kernel)
theorem fl_X5_33 : Cond.fieldLink RX5 33 "ButterChurn$Tape" "number" "I" ∈ TB := tb_1 88 (by decide +kernel) (by decide +kernel)
theorem fl_X5_9 : Cond.fieldLink RX5 9 "ButterChurn$Tape" "bytes" "[B" ∈ TB := tb_1 80 (by decide +kernel) (by decide +kernel)
theorem fl_X6_18 : Cond.fieldLink RX6 18 "ButterChurn$Told" "rules" "[I" ∈ TB := tb_1 42 (by decide +kernel) (by decide +kernel)
theorem fl_X6_21 : Cond.fieldLink RX6 21 "ButterChurn$Told" "FIRST_DROPS" "[I" ∈ TB := tb_1 40 (by decide +kernel) (by decide +kernel)
theorem fl_X6_24 : Cond.fieldLink RX6 24 "ButterChurn$Told" "litreDrops" "[I" ∈ TB := tb_1 46 (by decide +kernel) (by decide +kernel)
theorem fl_X6_27 : Cond.fieldLink RX6 27 "ButterChurn$Told" "litres" "[I" ∈ TB := tb_1 49 (by decide +kernel) (by decide +kernel)
theorem fl_X6_30 : Cond.fieldLink RX6 30 "ButterChurn$Told" "hards" "[I" ∈ TB := tb_1 51 (by decide +kernel) (by decide +kernel)
theorem fl_X6_39 : Cond.fieldLink RX6 39 "ButterChurn$Told" "cows" "I" ∈ TB := tb_1 53 (by decide +kernel) (by decide +kernel)
theorem fl_X6_7 : Cond.fieldLink RX6 7 "ButterChurn$Told" "FIRST_RULES" "[I" ∈ TB := tb_1 31 (by decide +kernel) (by decide +kernel)
theorem fl_X7_10 : Cond.fieldLink RX7 10 "ButterChurn" "told" "LButterChurn$Told;" ∈ TB := tb_1 228 (by decide +kernel) (by decide +kernel)
theorem fl_X7_112 : Cond.fieldLink RX7 112 "ButterChurn" "seen" "I" ∈ TB := tb_1 238 (by decide +kernel) (by decide +kernel)
theorem fl_X7_115 : Cond.fieldLink RX7 115 "ButterChurn$Image" "there" "Z" ∈ TB := tb_1 200 (by decide +kernel) (by decide +kernel)
theorem fl_X7_119 : Cond.fieldLink RX7 119 "ButterChurn$Told" "rules" "[I" ∈ TB := tb_1 44 (by decide +kernel) (by decide +kernel)
theorem fl_X7_122 : Cond.fieldLink RX7 122 "ButterChurn$Told" "litreDrops" "[I" ∈ TB := tb_1 48 (by decide +kernel) (by decide +kernel)
theorem fl_X7_129 : Cond.fieldLink RX7 129 "ButterChurn$Told" "litres" "[I" ∈ TB := tb_1 50 (by decide +kernel) (by decide +kernel)
theorem fl_X7_132 : Cond.fieldLink RX7 132 "ButterChurn$Told" "hards" "[I" ∈ TB := tb_1 52 (by decide +kernel) (by decide +kernel)
theorem fl_X7_138 : Cond.fieldLink RX7 138 "ButterChurn$Churn" "litres" "I" ∈ TB := tb_1 143 (by decide +kernel) (by decide +kernel)
theorem fl_X7_173 : Cond.fieldLink RX7 173 "ButterChurn$Best" "there" "Z" ∈ TB := tb_1 173 (by decide +kernel) (by decide +kernel)
theorem fl_X7_19 : Cond.fieldLink RX7 19 "ButterChurn" "reading" "LButterChurn$Reading;" ∈ TB := tb_1 229 (by decide +kernel) (by decide +kernel)
theorem fl_X7_237 : Cond.fieldLink RX7 237 "ButterChurn$Image" "churn" "LButterChurn$Churn;" ∈ TB := tb_1 199 (by decide +kernel) (by decide +kernel)
theorem fl_X7_238 : Cond.fieldLink RX7 238 "ButterChurn$Churn" "turns" "I" ∈ TB := tb_1 149 (by decide +kernel) (by decide +kernel)
theorem fl_X7_26 : Cond.fieldLink RX7 26 "ButterChurn" "churn" "LButterChurn$Churn;" ∈ TB := tb_1 230 (by decide +kernel) (by decide +kernel)
theorem fl_X7_260 : Cond.fieldLink RX7 260 "ButterChurn" "tornFault" "I" ∈ TB := tb_1 239 (by decide +kernel) (by decide +kernel)
theorem fl_X7_263 : Cond.fieldLink RX7 263 "ButterChurn$Told" "cows" "I" ∈ TB := tb_1 55 (by decide +kernel) (by decide +kernel)
theorem fl_X7_296 : Cond.fieldLink RX7 296 "ButterChurn$Sheet" "size" "I" ∈ TB := tb_1 216 (by decide +kernel) (by decide +kernel)
theorem fl_X7_30 : Cond.fieldLink RX7 30 "ButterChurn" "trial" "LButterChurn$Churn;" ∈ TB := tb_1 231 (by decide +kernel) (by decide +kernel)
theorem fl_X7_36 : Cond.fieldLink RX7 36 "ButterChurn" "best" "LButterChurn$Best;" ∈ TB := tb_1 232 (by decide +kernel) (by decide +kernel)
theorem fl_X7_43 : Cond.fieldLink RX7 43 "ButterChurn" "images" "[LButterChurn$Image;" ∈ TB := tb_1 233 (by decide +kernel) (by decide +kernel)
theorem fl_X7_50 : Cond.fieldLink RX7 50 "ButterChurn" "sheets" "[LButterChurn$Sheet;" ∈ TB := tb_1 234 (by decide +kernel) (by decide +kernel)
theorem fl_X7_54 : Cond.fieldLink RX7 54 "ButterChurn" "seenCows" "[I" ∈ TB := tb_1 235 (by decide +kernel) (by decide +kernel)
theorem fl_X7_58 : Cond.fieldLink RX7 58 "ButterChurn" "seenTurns" "[I" ∈ TB := tb_1 236 (by decide +kernel) (by decide +kernel)
theorem fl_X7_61 : Cond.fieldLink RX7 61 "ButterChurn" "water" "[I" ∈ TB := tb_1 237 (by decide +kernel) (by decide +kernel)
theorem fl_X7_68 : Cond.fieldLink RX7 68 "ButterChurn$Churn" "warmth" "I" ∈ TB := tb_1 144 (by decide +kernel) (by decide +kernel)
theorem fl_X7_72 : Cond.fieldLink RX7 72 "ButterChurn$Reading" "tape" "LButterChurn$Tape;" ∈ TB := tb_1 107 (by decide +kernel) (by decide +kernel)
theorem fl_X7_82 : Cond.fieldLink RX7 82 "ButterChurn$Tape" "length" "I" ∈ TB := tb_1 82 (by decide +kernel) (by decide +kernel)
theorem fl_X7_92 : Cond.fieldLink RX7 92 "ButterChurn$Reading" "fault" "I" ∈ TB := tb_1 115 (by decide +kernel) (by decide +kernel)
theorem fl_X7_95 : Cond.fieldLink RX7 95 "ButterChurn$Reading" "faultPlace" "I" ∈ TB := tb_1 116 (by decide +kernel) (by decide +kernel)
theorem fl_X7_98 : Cond.fieldLink RX7 98 "ButterChurn$Reading" "draft" "LButterChurn$Told;" ∈ TB := tb_1 109 (by decide +kernel) (by decide +kernel)
theorem fl_X8_101 : Cond.fieldLink RX8 101 "ButterChurnModel" "value" "I" ∈ TB := tb_4 71 (by decide +kernel) (by decide +kernel)
theorem fl_X8_123 : Cond.fieldLink RX8 123 "ButterChurnModel" "readMany" "I" ∈ TB := tb_4 84 (by decide +kernel) (by decide +kernel)
theorem fl_X8_13 : Cond.fieldLink RX8 13 "ButterChurnModel" "cuts" "[I" ∈ TB := tb_4 72 (by decide +kernel) (by decide +kernel)
theorem fl_X8_130 : Cond.fieldLink RX8 130 "ButterChurnModel" "toldOnes" "I" ∈ TB := tb_4 85 (by decide +kernel) (by decide +kernel)
theorem fl_X8_136 : Cond.fieldLink RX8 136 "ButterChurnModel" "fault" "I" ∈ TB := tb_4 65 (by decide +kernel) (by decide +kernel)
theorem fl_X8_139 : Cond.fieldLink RX8 139 "ButterChurnModel" "cowMany" "I" ∈ TB := tb_4 81 (by decide +kernel) (by decide +kernel)
theorem fl_X8_142 : Cond.fieldLink RX8 142 "ButterChurnModel" "seenMany" "I" ∈ TB := tb_4 91 (by decide +kernel) (by decide +kernel)
theorem fl_X8_149 : Cond.fieldLink RX8 149 "ButterChurnModel" "isAwake" "Z" ∈ TB := tb_4 87 (by decide +kernel) (by decide +kernel)
theorem fl_X8_16 : Cond.fieldLink RX8 16 "ButterChurnModel" "letters" "[I" ∈ TB := tb_4 73 (by decide +kernel) (by decide +kernel)
theorem fl_X8_19 : Cond.fieldLink RX8 19 "ButterChurnModel" "from" "[I" ∈ TB := tb_4 74 (by decide +kernel) (by decide +kernel)
theorem fl_X8_22 : Cond.fieldLink RX8 22 "ButterChurnModel" "to" "[I" ∈ TB := tb_4 75 (by decide +kernel) (by decide +kernel)
theorem fl_X8_25 : Cond.fieldLink RX8 25 "ButterChurnModel" "low" "[I" ∈ TB := tb_4 76 (by decide +kernel) (by decide +kernel)
theorem fl_X8_272 : Cond.fieldLink RX8 272 "ButterChurnModel" "torn" "I" ∈ TB := tb_4 97 (by decide +kernel) (by decide +kernel)
theorem fl_X8_28 : Cond.fieldLink RX8 28 "ButterChurnModel" "top" "[I" ∈ TB := tb_4 77 (by decide +kernel) (by decide +kernel)
theorem fl_X8_31 : Cond.fieldLink RX8 31 "ButterChurnModel" "plain" "[I" ∈ TB := tb_4 78 (by decide +kernel) (by decide +kernel)
theorem fl_X8_34 : Cond.fieldLink RX8 34 "ButterChurnModel" "rules" "[I" ∈ TB := tb_4 79 (by decide +kernel) (by decide +kernel)
theorem fl_X8_37 : Cond.fieldLink RX8 37 "ButterChurnModel" "cows" "[I" ∈ TB := tb_4 80 (by decide +kernel) (by decide +kernel)
theorem fl_X8_40 : Cond.fieldLink RX8 40 "ButterChurnModel" "readRules" "[I" ∈ TB := tb_4 82 (by decide +kernel) (by decide +kernel)
theorem fl_X8_43 : Cond.fieldLink RX8 43 "ButterChurnModel" "readCows" "[I" ∈ TB := tb_4 83 (by decide +kernel) (by decide +kernel)
theorem fl_X8_46 : Cond.fieldLink RX8 46 "ButterChurnModel" "state" "[I" ∈ TB := tb_4 86 (by decide +kernel) (by decide +kernel)
theorem fl_X8_49 : Cond.fieldLink RX8 49 "ButterChurnModel" "pairs" "[I" ∈ TB := tb_4 88 (by decide +kernel) (by decide +kernel)
theorem fl_X8_52 : Cond.fieldLink RX8 52 "ButterChurnModel" "best" "[I" ∈ TB := tb_4 89 (by decide +kernel) (by decide +kernel)
theorem fl_X8_55 : Cond.fieldLink RX8 55 "ButterChurnModel" "seen" "[I" ∈ TB := tb_4 90 (by decide +kernel) (by decide +kernel)
theorem fl_X8_58 : Cond.fieldLink RX8 58 "ButterChurnModel" "wet" "[I" ∈ TB := tb_4 92 (by decide +kernel) (by decide +kernel)
theorem fl_X8_61 : Cond.fieldLink RX8 61 "ButterChurnModel" "isKept" "[Z" ∈ TB := tb_4 93 (by decide +kernel) (by decide +kernel)
theorem fl_X8_65 : Cond.fieldLink RX8 65 "ButterChurnModel" "lanes" "[I" ∈ TB := tb_4 94 (by decide +kernel) (by decide +kernel)
theorem fl_X8_68 : Cond.fieldLink RX8 68 "ButterChurnModel" "lengths" "[I" ∈ TB := tb_4 95 (by decide +kernel) (by decide +kernel)
theorem fl_X8_7 : Cond.fieldLink RX8 7 "ButterChurnModel" "tape" "[I" ∈ TB := tb_4 63 (by decide +kernel) (by decide +kernel)
theorem fl_X8_71 : Cond.fieldLink RX8 71 "ButterChurnModel" "cells" "[I" ∈ TB := tb_4 96 (by decide +kernel) (by decide +kernel)
theorem fl_X8_74 : Cond.fieldLink RX8 74 "ButterChurnModel" "taped" "I" ∈ TB := tb_4 64 (by decide +kernel) (by decide +kernel)
theorem fl_X8_82 : Cond.fieldLink RX8 82 "ButterChurnModel" "broken" "I" ∈ TB := tb_4 66 (by decide +kernel) (by decide +kernel)
theorem fl_X8_85 : Cond.fieldLink RX8 85 "ButterChurnModel" "here" "I" ∈ TB := tb_4 69 (by decide +kernel) (by decide +kernel)
theorem fl_X8_88 : Cond.fieldLink RX8 88 "ButterChurnModel" "brokenAt" "I" ∈ TB := tb_4 67 (by decide +kernel) (by decide +kernel)
theorem fl_X8_91 : Cond.fieldLink RX8 91 "ButterChurnModel" "token" "I" ∈ TB := tb_4 70 (by decide +kernel) (by decide +kernel)
theorem fl_X8_94 : Cond.fieldLink RX8 94 "ButterChurnModel" "spot" "I" ∈ TB := tb_4 68 (by decide +kernel) (by decide +kernel)
theorem cd_J0_charAt_5068e : Cond.code yJ0_charAt_5068e cJ0_charAt_5068e 2 (some .char) ∈ TB := tb_2 111 rfl (by decide +kernel)
theorem se_J0_charAt_5068e : Cond.selects RJ0 yJ0_charAt_5068e yJ0_charAt_5068e ∈ TB := tb_2 110 (by decide +kernel) (by decide +kernel)
theorem im_J0_charAt_5068e : Cond.instanceMethod yJ0_charAt_5068e ∈ TB := tb_2 109 (by decide +kernel) (by decide +kernel)
theorem cd_J0_checkIndex_df160 : Cond.code yJ0_checkIndex_df160 cJ0_checkIndex_df160 2 none ∈ TB := tb_2 121 rfl (by decide +kernel)
theorem st_J0_checkIndex_df160 : Cond.static yJ0_checkIndex_df160 ∈ TB := tb_2 120 (by decide +kernel) (by decide +kernel)
theorem cd_J0_coder_7d493 : Cond.code yJ0_coder_7d493 cJ0_coder_7d493 1 (some .byte) ∈ TB := tb_2 105 rfl (by decide +kernel)
theorem se_J0_coder_7d493 : Cond.selects RJ0 yJ0_coder_7d493 yJ0_coder_7d493 ∈ TB := tb_2 104 (by decide +kernel) (by decide +kernel)
theorem im_J0_coder_7d493 : Cond.instanceMethod yJ0_coder_7d493 ∈ TB := tb_2 103 (by decide +kernel) (by decide +kernel)
theorem cd_J0_isLatin1_aae02 : Cond.code yJ0_isLatin1_aae02 cJ0_isLatin1_aae02 1 (some .boolean) ∈ TB := tb_2 115 rfl (by decide +kernel)
theorem se_J0_isLatin1_aae02 : Cond.selects RJ0 yJ0_isLatin1_aae02 yJ0_isLatin1_aae02 ∈ TB := tb_2 114 (by decide +kernel) (by decide +kernel)
theorem im_J0_isLatin1_aae02 : Cond.instanceMethod yJ0_isLatin1_aae02 ∈ TB := tb_2 113 (by decide +kernel) (by decide +kernel)
theorem cd_J0_length_8abf5 : Cond.code yJ0_length_8abf5 cJ0_length_8abf5 1 (some .int) ∈ TB := tb_2 101 rfl (by decide +kernel)
theorem se_J0_length_8abf5 : Cond.selects RJ0 yJ0_length_8abf5 yJ0_length_8abf5 ∈ TB := tb_2 100 (by decide +kernel) (by decide +kernel)
theorem im_J0_length_8abf5 : Cond.instanceMethod yJ0_length_8abf5 ∈ TB := tb_2 99 (by decide +kernel) (by decide +kernel)
theorem cd_J1_charAt_3b067 : Cond.code yJ1_charAt_3b067 cJ1_charAt_3b067 2 (some .char) ∈ TB := tb_2 118 rfl (by decide +kernel)
theorem st_J1_charAt_3b067 : Cond.static yJ1_charAt_3b067 ∈ TB := tb_2 117 (by decide +kernel) (by decide +kernel)
theorem cd_J2_charAt_3b067 : Cond.code yJ2_charAt_3b067 cJ2_charAt_3b067 2 (some .char) ∈ TB := tb_2 129 rfl (by decide +kernel)
theorem st_J2_charAt_3b067 : Cond.static yJ2_charAt_3b067 ∈ TB := tb_2 128 (by decide +kernel) (by decide +kernel)
theorem cd_J2_checkIndex_2214a : Cond.code yJ2_checkIndex_2214a cJ2_checkIndex_2214a 2 none ∈ TB := tb_2 132 rfl (by decide +kernel)
theorem st_J2_checkIndex_2214a : Cond.static yJ2_checkIndex_2214a ∈ TB := tb_2 131 (by decide +kernel) (by decide +kernel)
theorem cd_J2_getChar_3b067 : Cond.code yJ2_getChar_3b067 cJ2_getChar_3b067 2 (some .char) ∈ TB := tb_2 139 rfl (by decide +kernel)
theorem st_J2_getChar_3b067 : Cond.static yJ2_getChar_3b067 ∈ TB := tb_2 138 (by decide +kernel) (by decide +kernel)
theorem cd_J2_length_9d52b : Cond.code yJ2_length_9d52b cJ2_length_9d52b 1 (some .int) ∈ TB := tb_2 135 rfl (by decide +kernel)
theorem st_J2_length_9d52b : Cond.static yJ2_length_9d52b ∈ TB := tb_2 134 (by decide +kernel) (by decide +kernel)
theorem cd_J3_checkIndex_8e157 : Cond.code yJ3_checkIndex_8e157 cJ3_checkIndex_8e157 3 (some .int) ∈ TB := tb_2 126 rfl (by decide +kernel)
theorem st_J3_checkIndex_8e157 : Cond.static yJ3_checkIndex_8e157 ∈ TB := tb_2 125 (by decide +kernel) (by decide +kernel)
theorem cd_J6_bitCount_0f7a4 : Cond.code yJ6_bitCount_0f7a4 cJ6_bitCount_0f7a4 1 (some .int) ∈ TB := tb_3 128 rfl (by decide +kernel)
theorem st_J6_bitCount_0f7a4 : Cond.static yJ6_bitCount_0f7a4 ∈ TB := tb_3 127 (by decide +kernel) (by decide +kernel)
theorem cd_J9_floorDiv_7cf53 : Cond.code yJ9_floorDiv_7cf53 cJ9_floorDiv_7cf53 3 (some .int) ∈ TB := tb_3 27 rfl (by decide +kernel)
theorem st_J9_floorDiv_7cf53 : Cond.static yJ9_floorDiv_7cf53 ∈ TB := tb_3 26 (by decide +kernel) (by decide +kernel)
theorem cd_J9_max_7cf53 : Cond.code yJ9_max_7cf53 cJ9_max_7cf53 2 (some .int) ∈ TB := tb_3 30 rfl (by decide +kernel)
theorem st_J9_max_7cf53 : Cond.static yJ9_max_7cf53 ∈ TB := tb_3 29 (by decide +kernel) (by decide +kernel)
theorem cd_J9_min_7cf53 : Cond.code yJ9_min_7cf53 cJ9_min_7cf53 2 (some .int) ∈ TB := tb_3 15 rfl (by decide +kernel)
theorem st_J9_min_7cf53 : Cond.static yJ9_min_7cf53 ∈ TB := tb_3 14 (by decide +kernel) (by decide +kernel)
theorem cd_X0_init : Cond.code yX0_init cX0_init 1 none ∈ TB := tb_1 170 rfl (by decide +kernel)
theorem im_X0_init : Cond.instanceMethod yX0_init ∈ TB := tb_1 169 (by decide +kernel) (by decide +kernel)
theorem cd_X0_offer : Cond.code yX0_offer cX0_offer 5 none ∈ TB := tb_3 117 rfl (by decide +kernel)
theorem se_X0_offer : Cond.selects RX0 yX0_offer yX0_offer ∈ TB := tb_3 116 (by decide +kernel) (by decide +kernel)
theorem im_X0_offer : Cond.instanceMethod yX0_offer ∈ TB := tb_3 115 (by decide +kernel) (by decide +kernel)
theorem cd_X0_tell : Cond.code yX0_tell cX0_tell 2 (some .int) ∈ TB := tb_3 121 rfl (by decide +kernel)
theorem se_X0_tell : Cond.selects RX0 yX0_tell yX0_tell ∈ TB := tb_3 120 (by decide +kernel) (by decide +kernel)
theorem im_X0_tell : Cond.instanceMethod yX0_tell ∈ TB := tb_3 119 (by decide +kernel) (by decide +kernel)
theorem cd_X1_beatIn : Cond.code yX1_beatIn cX1_beatIn 3 none ∈ TB := tb_3 12 rfl (by decide +kernel)
theorem se_X1_beatIn : Cond.selects RX1 yX1_beatIn yX1_beatIn ∈ TB := tb_0 10 (by decide +kernel) (by decide +kernel)
theorem im_X1_beatIn : Cond.instanceMethod yX1_beatIn ∈ TB := tb_3 11 (by decide +kernel) (by decide +kernel)
theorem cd_X1_becomeLike : Cond.code yX1_becomeLike cX1_becomeLike 2 none ∈ TB := tb_3 160 rfl (by decide +kernel)
theorem se_X1_becomeLike : Cond.selects RX1 yX1_becomeLike yX1_becomeLike ∈ TB := tb_3 159 (by decide +kernel) (by decide +kernel)
theorem im_X1_becomeLike : Cond.instanceMethod yX1_becomeLike ∈ TB := tb_3 158 (by decide +kernel) (by decide +kernel)
theorem cd_X1_breakIfDue : Cond.code yX1_breakIfDue cX1_breakIfDue 3 none ∈ TB := tb_3 38 rfl (by decide +kernel)
theorem se_X1_breakIfDue : Cond.selects RX1 yX1_breakIfDue yX1_breakIfDue ∈ TB := tb_0 13 (by decide +kernel) (by decide +kernel)
theorem im_X1_breakIfDue : Cond.instanceMethod yX1_breakIfDue ∈ TB := tb_3 37 (by decide +kernel) (by decide +kernel)
theorem cd_X1_dropsOf : Cond.code yX1_dropsOf cX1_dropsOf 2 (some .int) ∈ TB := tb_3 82 rfl (by decide +kernel)
theorem se_X1_dropsOf : Cond.selects RX1 yX1_dropsOf yX1_dropsOf ∈ TB := tb_3 81 (by decide +kernel) (by decide +kernel)
theorem im_X1_dropsOf : Cond.instanceMethod yX1_dropsOf ∈ TB := tb_3 80 (by decide +kernel) (by decide +kernel)
theorem cd_X1_fatFrom : Cond.code yX1_fatFrom cX1_fatFrom 4 (some .int) ∈ TB := tb_3 42 rfl (by decide +kernel)
theorem se_X1_fatFrom : Cond.selects RX1 yX1_fatFrom yX1_fatFrom ∈ TB := tb_3 41 (by decide +kernel) (by decide +kernel)
theorem im_X1_fatFrom : Cond.instanceMethod yX1_fatFrom ∈ TB := tb_3 40 (by decide +kernel) (by decide +kernel)
theorem cd_X1_fillWith : Cond.code yX1_fillWith cX1_fillWith 5 none ∈ TB := tb_2 187 rfl (by decide +kernel)
theorem se_X1_fillWith : Cond.selects RX1 yX1_fillWith yX1_fillWith ∈ TB := tb_2 186 (by decide +kernel) (by decide +kernel)
theorem im_X1_fillWith : Cond.instanceMethod yX1_fillWith ∈ TB := tb_2 185 (by decide +kernel) (by decide +kernel)
theorem cd_X1_halve : Cond.code yX1_halve cX1_halve 2 none ∈ TB := tb_3 54 rfl (by decide +kernel)
theorem se_X1_halve : Cond.selects RX1 yX1_halve yX1_halve ∈ TB := tb_3 53 (by decide +kernel) (by decide +kernel)
theorem im_X1_halve : Cond.instanceMethod yX1_halve ∈ TB := tb_3 52 (by decide +kernel) (by decide +kernel)
theorem cd_X1_hardness : Cond.code yX1_hardness cX1_hardness 3 (some .int) ∈ TB := tb_3 23 rfl (by decide +kernel)
theorem se_X1_hardness : Cond.selects RX1 yX1_hardness yX1_hardness ∈ TB := tb_3 22 (by decide +kernel) (by decide +kernel)
theorem im_X1_hardness : Cond.instanceMethod yX1_hardness ∈ TB := tb_3 21 (by decide +kernel) (by decide +kernel)
theorem cd_X1_hasCome : Cond.code yX1_hasCome cX1_hasCome 1 (some .boolean) ∈ TB := tb_3 8 rfl (by decide +kernel)
theorem se_X1_hasCome : Cond.selects RX1 yX1_hasCome yX1_hasCome ∈ TB := tb_3 7 (by decide +kernel) (by decide +kernel)
theorem im_X1_hasCome : Cond.instanceMethod yX1_hasCome ∈ TB := tb_3 6 (by decide +kernel) (by decide +kernel)
theorem cd_X1_init : Cond.code yX1_init cX1_init 1 none ∈ TB := tb_1 139 rfl (by decide +kernel)
theorem im_X1_init : Cond.instanceMethod yX1_init ∈ TB := tb_1 138 (by decide +kernel) (by decide +kernel)
theorem cd_X1_isMostlyGreatest : Cond.code yX1_isMostlyGreatest cX1_isMostlyGreatest 1 (some .boolean) ∈ TB := tb_3 74 rfl (by decide +kernel)
theorem se_X1_isMostlyGreatest : Cond.selects RX1 yX1_isMostlyGreatest yX1_isMostlyGreatest ∈ TB := tb_3 73 (by decide +kernel) (by decide +kernel)
theorem im_X1_isMostlyGreatest : Cond.instanceMethod yX1_isMostlyGreatest ∈ TB := tb_3 72 (by decide +kernel) (by decide +kernel)
theorem cd_X1_isSwollen : Cond.code yX1_isSwollen cX1_isSwollen 3 (some .boolean) ∈ TB := tb_3 4 rfl (by decide +kernel)
theorem se_X1_isSwollen : Cond.selects RX1 yX1_isSwollen yX1_isSwollen ∈ TB := tb_3 3 (by decide +kernel) (by decide +kernel)
theorem im_X1_isSwollen : Cond.instanceMethod yX1_isSwollen ∈ TB := tb_3 2 (by decide +kernel) (by decide +kernel)
theorem cd_X1_joinDrops : Cond.code yX1_joinDrops cX1_joinDrops 4 none ∈ TB := tb_3 34 rfl (by decide +kernel)
theorem se_X1_joinDrops : Cond.selects RX1 yX1_joinDrops yX1_joinDrops ∈ TB := tb_0 12 (by decide +kernel) (by decide +kernel)
theorem im_X1_joinDrops : Cond.instanceMethod yX1_joinDrops ∈ TB := tb_3 33 (by decide +kernel) (by decide +kernel)
theorem cd_X1_left : Cond.code yX1_left cX1_left 2 (some .int) ∈ TB := tb_3 66 rfl (by decide +kernel)
theorem se_X1_left : Cond.selects RX1 yX1_left yX1_left ∈ TB := tb_3 65 (by decide +kernel) (by decide +kernel)
theorem im_X1_left : Cond.instanceMethod yX1_left ∈ TB := tb_3 64 (by decide +kernel) (by decide +kernel)
theorem cd_X1_outcome : Cond.code yX1_outcome cX1_outcome 2 (some .int) ∈ TB := tb_3 70 rfl (by decide +kernel)
theorem se_X1_outcome : Cond.selects RX1 yX1_outcome yX1_outcome ∈ TB := tb_0 14 (by decide +kernel) (by decide +kernel)
theorem im_X1_outcome : Cond.instanceMethod yX1_outcome ∈ TB := tb_3 69 (by decide +kernel) (by decide +kernel)
theorem cd_X1_rate : Cond.code yX1_rate cX1_rate 4 (some .int) ∈ TB := tb_3 19 rfl (by decide +kernel)
theorem se_X1_rate : Cond.selects RX1 yX1_rate yX1_rate ∈ TB := tb_0 11 (by decide +kernel) (by decide +kernel)
theorem im_X1_rate : Cond.instanceMethod yX1_rate ∈ TB := tb_3 18 (by decide +kernel) (by decide +kernel)
theorem cd_X1_tell : Cond.code yX1_tell cX1_tell 3 (some .int) ∈ TB := tb_3 62 rfl (by decide +kernel)
theorem se_X1_tell : Cond.selects RX1 yX1_tell yX1_tell ∈ TB := tb_3 61 (by decide +kernel) (by decide +kernel)
theorem im_X1_tell : Cond.instanceMethod yX1_tell ∈ TB := tb_3 60 (by decide +kernel) (by decide +kernel)
theorem cd_X1_turnOnce : Cond.code yX1_turnOnce cX1_turnOnce 5 (some .boolean) ∈ TB := tb_3 0 rfl (by decide +kernel)
theorem se_X1_turnOnce : Cond.selects RX1 yX1_turnOnce yX1_turnOnce ∈ TB := tb_2 239 (by decide +kernel) (by decide +kernel)
theorem im_X1_turnOnce : Cond.instanceMethod yX1_turnOnce ∈ TB := tb_2 238 (by decide +kernel) (by decide +kernel)
theorem cd_X2_init : Cond.code yX2_init cX2_init 1 none ∈ TB := tb_1 194 rfl (by decide +kernel)
theorem im_X2_init : Cond.instanceMethod yX2_init ∈ TB := tb_1 193 (by decide +kernel) (by decide +kernel)
theorem cd_X3_beginLine : Cond.code yX3_beginLine cX3_beginLine 2 none ∈ TB := tb_2 88 rfl (by decide +kernel)
theorem se_X3_beginLine : Cond.selects RX3 yX3_beginLine yX3_beginLine ∈ TB := tb_0 5 (by decide +kernel) (by decide +kernel)
theorem im_X3_beginLine : Cond.instanceMethod yX3_beginLine ∈ TB := tb_2 87 (by decide +kernel) (by decide +kernel)
theorem cd_X3_endLine : Cond.code yX3_endLine cX3_endLine 1 none ∈ TB := tb_2 175 rfl (by decide +kernel)
theorem se_X3_endLine : Cond.selects RX3 yX3_endLine yX3_endLine ∈ TB := tb_0 8 (by decide +kernel) (by decide +kernel)
theorem im_X3_endLine : Cond.instanceMethod yX3_endLine ∈ TB := tb_2 174 (by decide +kernel) (by decide +kernel)
theorem cd_X3_init : Cond.code yX3_init cX3_init 1 none ∈ TB := tb_1 72 rfl (by decide +kernel)
theorem im_X3_init : Cond.instanceMethod yX3_init ∈ TB := tb_1 71 (by decide +kernel) (by decide +kernel)
theorem cd_X3_lineNamed : Cond.code yX3_lineNamed cX3_lineNamed 1 (some .int) ∈ TB := tb_2 92 rfl (by decide +kernel)
theorem se_X3_lineNamed : Cond.selects RX3 yX3_lineNamed yX3_lineNamed ∈ TB := tb_0 6 (by decide +kernel) (by decide +kernel)
theorem im_X3_lineNamed : Cond.instanceMethod yX3_lineNamed ∈ TB := tb_2 91 (by decide +kernel) (by decide +kernel)
theorem cd_X3_readAll : Cond.code yX3_readAll cX3_readAll 2 (some .int) ∈ TB := tb_2 47 rfl (by decide +kernel)
theorem se_X3_readAll : Cond.selects RX3 yX3_readAll yX3_readAll ∈ TB := tb_2 46 (by decide +kernel) (by decide +kernel)
theorem im_X3_readAll : Cond.instanceMethod yX3_readAll ∈ TB := tb_2 45 (by decide +kernel) (by decide +kernel)
theorem cd_X3_refuse : Cond.code yX3_refuse cX3_refuse 2 none ∈ TB := tb_2 82 rfl (by decide +kernel)
theorem se_X3_refuse : Cond.selects RX3 yX3_refuse yX3_refuse ∈ TB := tb_0 4 (by decide +kernel) (by decide +kernel)
theorem im_X3_refuse : Cond.instanceMethod yX3_refuse ∈ TB := tb_2 81 (by decide +kernel) (by decide +kernel)
theorem cd_X3_takeNumber : Cond.code yX3_takeNumber cX3_takeNumber 3 none ∈ TB := tb_2 160 rfl (by decide +kernel)
theorem se_X3_takeNumber : Cond.selects RX3 yX3_takeNumber yX3_takeNumber ∈ TB := tb_0 7 (by decide +kernel) (by decide +kernel)
theorem im_X3_takeNumber : Cond.instanceMethod yX3_takeNumber ∈ TB := tb_2 159 (by decide +kernel) (by decide +kernel)
theorem cd_X3_takeToken : Cond.code yX3_takeToken cX3_takeToken 1 none ∈ TB := tb_2 78 rfl (by decide +kernel)
theorem se_X3_takeToken : Cond.selects RX3 yX3_takeToken yX3_takeToken ∈ TB := tb_0 3 (by decide +kernel) (by decide +kernel)
theorem im_X3_takeToken : Cond.instanceMethod yX3_takeToken ∈ TB := tb_2 77 (by decide +kernel) (by decide +kernel)
theorem cd_X4_cellAt : Cond.code yX4_cellAt cX4_cellAt 2 (some .int) ∈ TB := tb_4 36 rfl (by decide +kernel)
theorem se_X4_cellAt : Cond.selects RX4 yX4_cellAt yX4_cellAt ∈ TB := tb_4 35 (by decide +kernel) (by decide +kernel)
theorem im_X4_cellAt : Cond.instanceMethod yX4_cellAt ∈ TB := tb_4 34 (by decide +kernel) (by decide +kernel)
theorem cd_X4_faultAs : Cond.code yX4_faultAs cX4_faultAs 2 (some .int) ∈ TB := tb_4 40 rfl (by decide +kernel)
theorem se_X4_faultAs : Cond.selects RX4 yX4_faultAs yX4_faultAs ∈ TB := tb_4 39 (by decide +kernel) (by decide +kernel)
theorem im_X4_faultAs : Cond.instanceMethod yX4_faultAs ∈ TB := tb_4 38 (by decide +kernel) (by decide +kernel)
theorem cd_X4_init : Cond.code yX4_init cX4_init 1 none ∈ TB := tb_1 211 rfl (by decide +kernel)
theorem im_X4_init : Cond.instanceMethod yX4_init ∈ TB := tb_1 210 (by decide +kernel) (by decide +kernel)
theorem cd_X4_isThere : Cond.code yX4_isThere cX4_isThere 1 (some .boolean) ∈ TB := tb_4 23 rfl (by decide +kernel)
theorem se_X4_isThere : Cond.selects RX4 yX4_isThere yX4_isThere ∈ TB := tb_4 22 (by decide +kernel) (by decide +kernel)
theorem im_X4_isThere : Cond.instanceMethod yX4_isThere ∈ TB := tb_4 21 (by decide +kernel) (by decide +kernel)
theorem cd_X4_pairsWhole : Cond.code yX4_pairsWhole cX4_pairsWhole 4 (some .int) ∈ TB := tb_4 31 rfl (by decide +kernel)
theorem se_X4_pairsWhole : Cond.selects RX4 yX4_pairsWhole yX4_pairsWhole ∈ TB := tb_4 30 (by decide +kernel) (by decide +kernel)
theorem im_X4_pairsWhole : Cond.instanceMethod yX4_pairsWhole ∈ TB := tb_4 29 (by decide +kernel) (by decide +kernel)
theorem cd_X4_put : Cond.code yX4_put cX4_put 3 (some .int) ∈ TB := tb_4 19 rfl (by decide +kernel)
theorem se_X4_put : Cond.selects RX4 yX4_put yX4_put ∈ TB := tb_4 18 (by decide +kernel) (by decide +kernel)
theorem im_X4_put : Cond.instanceMethod yX4_put ∈ TB := tb_4 17 (by decide +kernel) (by decide +kernel)
theorem cd_X4_renew : Cond.code yX4_renew cX4_renew 4 none ∈ TB := tb_4 11 rfl (by decide +kernel)
theorem se_X4_renew : Cond.selects RX4 yX4_renew yX4_renew ∈ TB := tb_4 10 (by decide +kernel) (by decide +kernel)
theorem im_X4_renew : Cond.instanceMethod yX4_renew ∈ TB := tb_4 9 (by decide +kernel) (by decide +kernel)
theorem cd_X5_advance : Cond.code yX5_advance cX5_advance 2 none ∈ TB := tb_2 62 rfl (by decide +kernel)
theorem se_X5_advance : Cond.selects RX5 yX5_advance yX5_advance ∈ TB := tb_2 61 (by decide +kernel) (by decide +kernel)
theorem im_X5_advance : Cond.instanceMethod yX5_advance ∈ TB := tb_2 60 (by decide +kernel) (by decide +kernel)
theorem cd_X5_byteAt : Cond.code yX5_byteAt cX5_byteAt 2 (some .int) ∈ TB := tb_2 70 rfl (by decide +kernel)
theorem se_X5_byteAt : Cond.selects RX5 yX5_byteAt yX5_byteAt ∈ TB := tb_0 1 (by decide +kernel) (by decide +kernel)
theorem im_X5_byteAt : Cond.instanceMethod yX5_byteAt ∈ TB := tb_2 69 (by decide +kernel) (by decide +kernel)
theorem cd_X5_init : Cond.code yX5_init cX5_init 1 none ∈ TB := tb_1 78 rfl (by decide +kernel)
theorem im_X5_init : Cond.instanceMethod yX5_init ∈ TB := tb_1 77 (by decide +kernel) (by decide +kernel)
theorem cd_X5_kindAt : Cond.code yX5_kindAt cX5_kindAt 3 (some .int) ∈ TB := tb_2 66 rfl (by decide +kernel)
theorem se_X5_kindAt : Cond.selects RX5 yX5_kindAt yX5_kindAt ∈ TB := tb_0 0 (by decide +kernel) (by decide +kernel)
theorem im_X5_kindAt : Cond.instanceMethod yX5_kindAt ∈ TB := tb_2 65 (by decide +kernel) (by decide +kernel)
theorem cd_X5_put : Cond.code yX5_put cX5_put 4 (some .boolean) ∈ TB := tb_2 32 rfl (by decide +kernel)
theorem se_X5_put : Cond.selects RX5 yX5_put yX5_put ∈ TB := tb_2 31 (by decide +kernel) (by decide +kernel)
theorem im_X5_put : Cond.instanceMethod yX5_put ∈ TB := tb_2 30 (by decide +kernel) (by decide +kernel)
theorem cd_X5_rewind : Cond.code yX5_rewind cX5_rewind 1 none ∈ TB := tb_2 58 rfl (by decide +kernel)
theorem se_X5_rewind : Cond.selects RX5 yX5_rewind yX5_rewind ∈ TB := tb_2 57 (by decide +kernel) (by decide +kernel)
theorem im_X5_rewind : Cond.instanceMethod yX5_rewind ∈ TB := tb_2 56 (by decide +kernel) (by decide +kernel)
theorem cd_X5_spells : Cond.code yX5_spells cX5_spells 3 (some .boolean) ∈ TB := tb_2 97 rfl (by decide +kernel)
theorem se_X5_spells : Cond.selects RX5 yX5_spells yX5_spells ∈ TB := tb_2 96 (by decide +kernel) (by decide +kernel)
theorem im_X5_spells : Cond.instanceMethod yX5_spells ∈ TB := tb_2 95 (by decide +kernel) (by decide +kernel)
theorem cd_X5_takeNumber : Cond.code yX5_takeNumber cX5_takeNumber 2 none ∈ TB := tb_2 74 rfl (by decide +kernel)
theorem se_X5_takeNumber : Cond.selects RX5 yX5_takeNumber yX5_takeNumber ∈ TB := tb_0 2 (by decide +kernel) (by decide +kernel)
theorem im_X5_takeNumber : Cond.instanceMethod yX5_takeNumber ∈ TB := tb_2 73 (by decide +kernel) (by decide +kernel)
theorem cd_X6_allCows : Cond.code yX6_allCows cX6_allCows 1 (some .int) ∈ TB := tb_2 183 rfl (by decide +kernel)
theorem se_X6_allCows : Cond.selects RX6 yX6_allCows yX6_allCows ∈ TB := tb_2 182 (by decide +kernel) (by decide +kernel)
theorem im_X6_allCows : Cond.instanceMethod yX6_allCows ∈ TB := tb_2 181 (by decide +kernel) (by decide +kernel)
theorem cd_X6_base : Cond.code yX6_base cX6_base 1 (some .int) ∈ TB := tb_1 227 rfl (by decide +kernel)
theorem se_X6_base : Cond.selects RX6 yX6_base yX6_base ∈ TB := tb_1 226 (by decide +kernel) (by decide +kernel)
theorem im_X6_base : Cond.instanceMethod yX6_base ∈ TB := tb_1 225 (by decide +kernel) (by decide +kernel)
theorem cd_X6_becomeFirst : Cond.code yX6_becomeFirst cX6_becomeFirst 1 none ∈ TB := tb_2 51 rfl (by decide +kernel)
theorem se_X6_becomeFirst : Cond.selects RX6 yX6_becomeFirst yX6_becomeFirst ∈ TB := tb_2 50 (by decide +kernel) (by decide +kernel)
theorem im_X6_becomeFirst : Cond.instanceMethod yX6_becomeFirst ∈ TB := tb_2 49 (by decide +kernel) (by decide +kernel)
theorem cd_X6_becomeLike : Cond.code yX6_becomeLike cX6_becomeLike 2 none ∈ TB := tb_2 179 rfl (by decide +kernel)
theorem se_X6_becomeLike : Cond.selects RX6 yX6_becomeLike yX6_becomeLike ∈ TB := tb_2 178 (by decide +kernel) (by decide +kernel)
theorem im_X6_becomeLike : Cond.instanceMethod yX6_becomeLike ∈ TB := tb_2 177 (by decide +kernel) (by decide +kernel)
theorem cd_X6_hardOf : Cond.code yX6_hardOf cX6_hardOf 4 (some .int) ∈ TB := tb_2 195 rfl (by decide +kernel)
theorem se_X6_hardOf : Cond.selects RX6 yX6_hardOf yX6_hardOf ∈ TB := tb_2 194 (by decide +kernel) (by decide +kernel)
theorem im_X6_hardOf : Cond.instanceMethod yX6_hardOf ∈ TB := tb_2 193 (by decide +kernel) (by decide +kernel)
theorem cd_X6_hasAllCows : Cond.code yX6_hasAllCows cX6_hasAllCows 1 (some .boolean) ∈ TB := tb_2 156 rfl (by decide +kernel)
theorem se_X6_hasAllCows : Cond.selects RX6 yX6_hasAllCows yX6_hasAllCows ∈ TB := tb_2 155 (by decide +kernel) (by decide +kernel)
theorem im_X6_hasAllCows : Cond.instanceMethod yX6_hasAllCows ∈ TB := tb_2 154 (by decide +kernel) (by decide +kernel)
theorem cd_X6_hasCow : Cond.code yX6_hasCow cX6_hasCow 2 (some .boolean) ∈ TB := tb_2 212 rfl (by decide +kernel)
theorem se_X6_hasCow : Cond.selects RX6 yX6_hasCow yX6_hasCow ∈ TB := tb_2 211 (by decide +kernel) (by decide +kernel)
theorem im_X6_hasCow : Cond.instanceMethod yX6_hasCow ∈ TB := tb_2 210 (by decide +kernel) (by decide +kernel)
theorem cd_X6_hasCows : Cond.code yX6_hasCows cX6_hasCows 2 (some .boolean) ∈ TB := tb_2 224 rfl (by decide +kernel)
theorem se_X6_hasCows : Cond.selects RX6 yX6_hasCows yX6_hasCows ∈ TB := tb_2 223 (by decide +kernel) (by decide +kernel)
theorem im_X6_hasCows : Cond.instanceMethod yX6_hasCows ∈ TB := tb_2 222 (by decide +kernel) (by decide +kernel)
theorem cd_X6_init : Cond.code yX6_init cX6_init 1 none ∈ TB := tb_1 29 rfl (by decide +kernel)
theorem im_X6_init : Cond.instanceMethod yX6_init ∈ TB := tb_1 28 (by decide +kernel) (by decide +kernel)
theorem cd_X6_isGood : Cond.code yX6_isGood cX6_isGood 2 (some .boolean) ∈ TB := tb_3 112 rfl (by decide +kernel)
theorem se_X6_isGood : Cond.selects RX6 yX6_isGood yX6_isGood ∈ TB := tb_3 111 (by decide +kernel) (by decide +kernel)
theorem im_X6_isGood : Cond.instanceMethod yX6_isGood ∈ TB := tb_3 110 (by decide +kernel) (by decide +kernel)
theorem cd_X6_litresOf : Cond.code yX6_litresOf cX6_litresOf 4 (some .int) ∈ TB := tb_2 191 rfl (by decide +kernel)
theorem se_X6_litresOf : Cond.selects RX6 yX6_litresOf yX6_litresOf ∈ TB := tb_2 190 (by decide +kernel) (by decide +kernel)
theorem im_X6_litresOf : Cond.instanceMethod yX6_litresOf ∈ TB := tb_2 189 (by decide +kernel) (by decide +kernel)
theorem cd_X6_put : Cond.code yX6_put cX6_put 3 none ∈ TB := tb_2 171 rfl (by decide +kernel)
theorem se_X6_put : Cond.selects RX6 yX6_put yX6_put ∈ TB := tb_2 170 (by decide +kernel) (by decide +kernel)
theorem im_X6_put : Cond.instanceMethod yX6_put ∈ TB := tb_2 169 (by decide +kernel) (by decide +kernel)
theorem cd_X7_back : Cond.code yX7_back cX7_back 3 (some .int) ∈ TB := tb_3 239 rfl (by decide +kernel)
theorem se_X7_back : Cond.selects RX7 yX7_back yX7_back ∈ TB := tb_3 238 (by decide +kernel) (by decide +kernel)
theorem im_X7_back : Cond.instanceMethod yX7_back ∈ TB := tb_3 237 (by decide +kernel) (by decide +kernel)
theorem cd_X7_cellsOf : Cond.code yX7_cellsOf cX7_cellsOf 1 (some .int) ∈ TB := tb_4 55 rfl (by decide +kernel)
theorem st_X7_cellsOf : Cond.static yX7_cellsOf ∈ TB := tb_4 54 (by decide +kernel) (by decide +kernel)
theorem cd_X7_chancesAbove : Cond.code yX7_chancesAbove cX7_chancesAbove 4 (some .int) ∈ TB := tb_3 219 rfl (by decide +kernel)
theorem st_X7_chancesAbove : Cond.static yX7_chancesAbove ∈ TB := tb_3 218 (by decide +kernel) (by decide +kernel)
theorem cd_X7_comes : Cond.code yX7_comes cX7_comes 4 (some .int) ∈ TB := tb_3 94 rfl (by decide +kernel)
theorem se_X7_comes : Cond.selects RX7 yX7_comes yX7_comes ∈ TB := tb_3 93 (by decide +kernel) (by decide +kernel)
theorem im_X7_comes : Cond.instanceMethod yX7_comes ∈ TB := tb_3 92 (by decide +kernel) (by decide +kernel)
theorem cd_X7_count : Cond.code yX7_count cX7_count 2 (some .int) ∈ TB := tb_4 48 rfl (by decide +kernel)
theorem se_X7_count : Cond.selects RX7 yX7_count yX7_count ∈ TB := tb_4 47 (by decide +kernel) (by decide +kernel)
theorem im_X7_count : Cond.instanceMethod yX7_count ∈ TB := tb_4 46 (by decide +kernel) (by decide +kernel)
theorem cd_X7_cow : Cond.code yX7_cow cX7_cow 3 (some .int) ∈ TB := tb_2 208 rfl (by decide +kernel)
theorem se_X7_cow : Cond.selects RX7 yX7_cow yX7_cow ∈ TB := tb_2 207 (by decide +kernel) (by decide +kernel)
theorem im_X7_cow : Cond.instanceMethod yX7_cow ∈ TB := tb_2 206 (by decide +kernel) (by decide +kernel)
theorem cd_X7_dairy : Cond.code yX7_dairy cX7_dairy 6 (some .int) ∈ TB := tb_2 43 rfl (by decide +kernel)
theorem se_X7_dairy : Cond.selects RX7 yX7_dairy yX7_dairy ∈ TB := tb_2 42 (by decide +kernel) (by decide +kernel)
theorem im_X7_dairy : Cond.instanceMethod yX7_dairy ∈ TB := tb_2 41 (by decide +kernel) (by decide +kernel)
theorem cd_X7_drops : Cond.code yX7_drops cX7_drops 2 (some .int) ∈ TB := tb_3 78 rfl (by decide +kernel)
theorem se_X7_drops : Cond.selects RX7 yX7_drops yX7_drops ∈ TB := tb_3 77 (by decide +kernel) (by decide +kernel)
theorem im_X7_drops : Cond.instanceMethod yX7_drops ∈ TB := tb_3 76 (by decide +kernel) (by decide +kernel)
theorem cd_X7_end : Cond.code yX7_end cX7_end 3 (some .int) ∈ TB := tb_2 36 rfl (by decide +kernel)
theorem se_X7_end : Cond.selects RX7 yX7_end yX7_end ∈ TB := tb_2 35 (by decide +kernel) (by decide +kernel)
theorem im_X7_end : Cond.instanceMethod yX7_end ∈ TB := tb_2 34 (by decide +kernel) (by decide +kernel)
theorem cd_X7_fault : Cond.code yX7_fault cX7_fault 1 (some .int) ∈ TB := tb_2 200 rfl (by decide +kernel)
theorem se_X7_fault : Cond.selects RX7 yX7_fault yX7_fault ∈ TB := tb_2 199 (by decide +kernel) (by decide +kernel)
theorem im_X7_fault : Cond.instanceMethod yX7_fault ∈ TB := tb_2 198 (by decide +kernel) (by decide +kernel)
theorem cd_X7_feed : Cond.code yX7_feed cX7_feed 3 (some .int) ∈ TB := tb_2 28 rfl (by decide +kernel)
theorem se_X7_feed : Cond.selects RX7 yX7_feed yX7_feed ∈ TB := tb_2 27 (by decide +kernel) (by decide +kernel)
theorem im_X7_feed : Cond.instanceMethod yX7_feed ∈ TB := tb_2 26 (by decide +kernel) (by decide +kernel)
theorem cd_X7_feeds : Cond.code yX7_feeds cX7_feeds 4 (some .int) ∈ TB := tb_2 216 rfl (by decide +kernel)
theorem se_X7_feeds : Cond.selects RX7 yX7_feeds yX7_feeds ∈ TB := tb_2 215 (by decide +kernel) (by decide +kernel)
theorem im_X7_feeds : Cond.instanceMethod yX7_feeds ∈ TB := tb_2 214 (by decide +kernel) (by decide +kernel)
theorem cd_X7_fill : Cond.code yX7_fill cX7_fill 3 (some .int) ∈ TB := tb_2 220 rfl (by decide +kernel)
theorem se_X7_fill : Cond.selects RX7 yX7_fill yX7_fill ∈ TB := tb_2 219 (by decide +kernel) (by decide +kernel)
theorem im_X7_fill : Cond.instanceMethod yX7_fill ∈ TB := tb_2 218 (by decide +kernel) (by decide +kernel)
theorem cd_X7_findBest : Cond.code yX7_findBest cX7_findBest 5 none ∈ TB := tb_3 108 rfl (by decide +kernel)
theorem se_X7_findBest : Cond.selects RX7 yX7_findBest yX7_findBest ∈ TB := tb_0 17 (by decide +kernel) (by decide +kernel)
theorem im_X7_findBest : Cond.instanceMethod yX7_findBest ∈ TB := tb_3 107 (by decide +kernel) (by decide +kernel)
theorem cd_X7_forget : Cond.code yX7_forget cX7_forget 2 (some .int) ∈ TB := tb_3 140 rfl (by decide +kernel)
theorem se_X7_forget : Cond.selects RX7 yX7_forget yX7_forget ∈ TB := tb_3 139 (by decide +kernel) (by decide +kernel)
theorem im_X7_forget : Cond.instanceMethod yX7_forget ∈ TB := tb_3 138 (by decide +kernel) (by decide +kernel)
theorem cd_X7_half : Cond.code yX7_half cX7_half 1 (some .int) ∈ TB := tb_3 50 rfl (by decide +kernel)
theorem se_X7_half : Cond.selects RX7 yX7_half yX7_half ∈ TB := tb_3 49 (by decide +kernel) (by decide +kernel)
theorem im_X7_half : Cond.instanceMethod yX7_half ∈ TB := tb_3 48 (by decide +kernel) (by decide +kernel)
theorem cd_X7_imageAt : Cond.code yX7_imageAt cX7_imageAt 2 (some (.object "ButterChurn$Image")) ∈ TB := tb_3 235 rfl (by decide +kernel)
theorem se_X7_imageAt : Cond.selects RX7 yX7_imageAt yX7_imageAt ∈ TB := tb_0 21 (by decide +kernel) (by decide +kernel)
theorem im_X7_imageAt : Cond.instanceMethod yX7_imageAt ∈ TB := tb_3 234 (by decide +kernel) (by decide +kernel)
theorem cd_X7_imagesThere : Cond.code yX7_imagesThere cX7_imagesThere 6 (some .int) ∈ TB := tb_4 52 rfl (by decide +kernel)
theorem se_X7_imagesThere : Cond.selects RX7 yX7_imagesThere yX7_imagesThere ∈ TB := tb_0 23 (by decide +kernel) (by decide +kernel)
theorem im_X7_imagesThere : Cond.instanceMethod yX7_imagesThere ∈ TB := tb_4 51 (by decide +kernel) (by decide +kernel)
theorem cd_X7_init : Cond.code yX7_init cX7_init 1 none ∈ TB := tb_1 21 rfl (by decide +kernel)
theorem im_X7_init : Cond.instanceMethod yX7_init ∈ TB := tb_1 20 (by decide +kernel) (by decide +kernel)
theorem cd_X7_isAsSeen : Cond.code yX7_isAsSeen cX7_isAsSeen 7 (some .boolean) ∈ TB := tb_3 148 rfl (by decide +kernel)
theorem se_X7_isAsSeen : Cond.selects RX7 yX7_isAsSeen yX7_isAsSeen ∈ TB := tb_0 18 (by decide +kernel) (by decide +kernel)
theorem im_X7_isAsSeen : Cond.instanceMethod yX7_isAsSeen ∈ TB := tb_3 147 (by decide +kernel) (by decide +kernel)
theorem cd_X7_isBadRod : Cond.code yX7_isBadRod cX7_isBadRod 3 (some .boolean) ∈ TB := tb_3 216 rfl (by decide +kernel)
theorem st_X7_isBadRod : Cond.static yX7_isBadRod ∈ TB := tb_3 215 (by decide +kernel) (by decide +kernel)
theorem cd_X7_isBadRun : Cond.code yX7_isBadRun cX7_isBadRun 4 (some .boolean) ∈ TB := tb_3 90 rfl (by decide +kernel)
theorem se_X7_isBadRun : Cond.selects RX7 yX7_isBadRun yX7_isBadRun ∈ TB := tb_0 15 (by decide +kernel) (by decide +kernel)
theorem im_X7_isBadRun : Cond.instanceMethod yX7_isBadRun ∈ TB := tb_3 89 (by decide +kernel) (by decide +kernel)
theorem cd_X7_isBadShare : Cond.code yX7_isBadShare cX7_isBadShare 2 (some .boolean) ∈ TB := tb_3 189 rfl (by decide +kernel)
theorem st_X7_isBadShare : Cond.static yX7_isBadShare ∈ TB := tb_3 188 (by decide +kernel) (by decide +kernel)
theorem cd_X7_isBadTurn : Cond.code yX7_isBadTurn cX7_isBadTurn 2 (some .boolean) ∈ TB := tb_2 232 rfl (by decide +kernel)
theorem st_X7_isBadTurn : Cond.static yX7_isBadTurn ∈ TB := tb_2 231 (by decide +kernel) (by decide +kernel)
theorem cd_X7_isBadWash : Cond.code yX7_isBadWash cX7_isBadWash 2 (some .boolean) ∈ TB := tb_3 175 rfl (by decide +kernel)
theorem st_X7_isBadWash : Cond.static yX7_isBadWash ∈ TB := tb_3 174 (by decide +kernel) (by decide +kernel)
theorem cd_X7_isBadWater : Cond.code yX7_isBadWater cX7_isBadWater 2 (some .boolean) ∈ TB := tb_3 200 rfl (by decide +kernel)
theorem st_X7_isBadWater : Cond.static yX7_isBadWater ∈ TB := tb_3 199 (by decide +kernel) (by decide +kernel)
theorem cd_X7_keep : Cond.code yX7_keep cX7_keep 4 (some .int) ∈ TB := tb_3 231 rfl (by decide +kernel)
theorem se_X7_keep : Cond.selects RX7 yX7_keep yX7_keep ∈ TB := tb_3 230 (by decide +kernel) (by decide +kernel)
theorem im_X7_keep : Cond.instanceMethod yX7_keep ∈ TB := tb_3 229 (by decide +kernel) (by decide +kernel)
theorem cd_X7_keeps : Cond.code yX7_keeps cX7_keeps 5 (some .int) ∈ TB := tb_3 209 rfl (by decide +kernel)
theorem se_X7_keeps : Cond.selects RX7 yX7_keeps yX7_keeps ∈ TB := tb_3 208 (by decide +kernel) (by decide +kernel)
theorem im_X7_keeps : Cond.instanceMethod yX7_keeps ∈ TB := tb_3 207 (by decide +kernel) (by decide +kernel)
theorem cd_X7_lay : Cond.code yX7_lay cX7_lay 6 (some .int) ∈ TB := tb_4 15 rfl (by decide +kernel)
theorem se_X7_lay : Cond.selects RX7 yX7_lay yX7_lay ∈ TB := tb_4 14 (by decide +kernel) (by decide +kernel)
theorem im_X7_lay : Cond.instanceMethod yX7_lay ∈ TB := tb_4 13 (by decide +kernel) (by decide +kernel)
theorem cd_X7_lowest : Cond.code yX7_lowest cX7_lowest 12 (some .long) ∈ TB := tb_3 182 rfl (by decide +kernel)
theorem st_X7_lowest : Cond.static yX7_lowest ∈ TB := tb_3 181 (by decide +kernel) (by decide +kernel)
theorem cd_X7_near : Cond.code yX7_near cX7_near 8 (some .int) ∈ TB := tb_3 223 rfl (by decide +kernel)
theorem se_X7_near : Cond.selects RX7 yX7_near yX7_near ∈ TB := tb_3 222 (by decide +kernel) (by decide +kernel)
theorem im_X7_near : Cond.instanceMethod yX7_near ∈ TB := tb_3 221 (by decide +kernel) (by decide +kernel)
theorem cd_X7_next : Cond.code yX7_next cX7_next 7 (some .int) ∈ TB := tb_3 152 rfl (by decide +kernel)
theorem se_X7_next : Cond.selects RX7 yX7_next yX7_next ∈ TB := tb_3 151 (by decide +kernel) (by decide +kernel)
theorem im_X7_next : Cond.instanceMethod yX7_next ∈ TB := tb_3 150 (by decide +kernel) (by decide +kernel)
theorem cd_X7_now : Cond.code yX7_now cX7_now 2 (some .int) ∈ TB := tb_3 58 rfl (by decide +kernel)
theorem se_X7_now : Cond.selects RX7 yX7_now yX7_now ∈ TB := tb_3 57 (by decide +kernel) (by decide +kernel)
theorem im_X7_now : Cond.instanceMethod yX7_now ∈ TB := tb_3 56 (by decide +kernel) (by decide +kernel)
theorem cd_X7_outside : Cond.code yX7_outside cX7_outside 3 (some .boolean) ∈ TB := tb_2 39 rfl (by decide +kernel)
theorem st_X7_outside : Cond.static yX7_outside ∈ TB := tb_2 38 (by decide +kernel) (by decide +kernel)
theorem cd_X7_over : Cond.code yX7_over cX7_over 3 (some .int) ∈ TB := tb_3 167 rfl (by decide +kernel)
theorem se_X7_over : Cond.selects RX7 yX7_over yX7_over ∈ TB := tb_3 166 (by decide +kernel) (by decide +kernel)
theorem im_X7_over : Cond.instanceMethod yX7_over ∈ TB := tb_3 165 (by decide +kernel) (by decide +kernel)
theorem cd_X7_plan : Cond.code yX7_plan cX7_plan 3 (some .int) ∈ TB := tb_3 104 rfl (by decide +kernel)
theorem se_X7_plan : Cond.selects RX7 yX7_plan yX7_plan ∈ TB := tb_3 103 (by decide +kernel) (by decide +kernel)
theorem im_X7_plan : Cond.instanceMethod yX7_plan ∈ TB := tb_3 102 (by decide +kernel) (by decide +kernel)
theorem cd_X7_power : Cond.code yX7_power cX7_power 6 (some .long) ∈ TB := tb_3 179 rfl (by decide +kernel)
theorem st_X7_power : Cond.static yX7_power ∈ TB := tb_3 178 (by decide +kernel) (by decide +kernel)
theorem cd_X7_read : Cond.code yX7_read cX7_read 8 (some .int) ∈ TB := tb_4 27 rfl (by decide +kernel)
theorem se_X7_read : Cond.selects RX7 yX7_read yX7_read ∈ TB := tb_4 26 (by decide +kernel) (by decide +kernel)
theorem im_X7_read : Cond.instanceMethod yX7_read ∈ TB := tb_4 25 (by decide +kernel) (by decide +kernel)
theorem cd_X7_rod : Cond.code yX7_rod cX7_rod 6 (some .int) ∈ TB := tb_3 213 rfl (by decide +kernel)
theorem se_X7_rod : Cond.selects RX7 yX7_rod yX7_rod ∈ TB := tb_3 212 (by decide +kernel) (by decide +kernel)
theorem im_X7_rod : Cond.instanceMethod yX7_rod ∈ TB := tb_3 211 (by decide +kernel) (by decide +kernel)
theorem cd_X7_rule : Cond.code yX7_rule cX7_rule 2 (some .int) ∈ TB := tb_2 204 rfl (by decide +kernel)
theorem se_X7_rule : Cond.selects RX7 yX7_rule yX7_rule ∈ TB := tb_2 203 (by decide +kernel) (by decide +kernel)
theorem im_X7_rule : Cond.instanceMethod yX7_rule ∈ TB := tb_2 202 (by decide +kernel) (by decide +kernel)
theorem cd_X7_run : Cond.code yX7_run cX7_run 7 (some .int) ∈ TB := tb_3 86 rfl (by decide +kernel)
theorem se_X7_run : Cond.selects RX7 yX7_run yX7_run ∈ TB := tb_3 85 (by decide +kernel) (by decide +kernel)
theorem im_X7_run : Cond.instanceMethod yX7_run ∈ TB := tb_3 84 (by decide +kernel) (by decide +kernel)
theorem cd_X7_saw : Cond.code yX7_saw cX7_saw 3 (some .int) ∈ TB := tb_3 136 rfl (by decide +kernel)
theorem se_X7_saw : Cond.selects RX7 yX7_saw yX7_saw ∈ TB := tb_3 135 (by decide +kernel) (by decide +kernel)
theorem im_X7_saw : Cond.instanceMethod yX7_saw ∈ TB := tb_3 134 (by decide +kernel) (by decide +kernel)
theorem cd_X7_sheet : Cond.code yX7_sheet cX7_sheet 5 (some .int) ∈ TB := tb_4 3 rfl (by decide +kernel)
theorem se_X7_sheet : Cond.selects RX7 yX7_sheet yX7_sheet ∈ TB := tb_4 2 (by decide +kernel) (by decide +kernel)
theorem im_X7_sheet : Cond.instanceMethod yX7_sheet ∈ TB := tb_4 1 (by decide +kernel) (by decide +kernel)
theorem cd_X7_sheetAt : Cond.code yX7_sheetAt cX7_sheetAt 2 (some (.object "ButterChurn$Sheet")) ∈ TB := tb_4 7 rfl (by decide +kernel)
theorem se_X7_sheetAt : Cond.selects RX7 yX7_sheetAt yX7_sheetAt ∈ TB := tb_0 22 (by decide +kernel) (by decide +kernel)
theorem im_X7_sheetAt : Cond.instanceMethod yX7_sheetAt ∈ TB := tb_4 6 (by decide +kernel) (by decide +kernel)
theorem cd_X7_split : Cond.code yX7_split cX7_split 7 (some .int) ∈ TB := tb_3 193 rfl (by decide +kernel)
theorem se_X7_split : Cond.selects RX7 yX7_split yX7_split ∈ TB := tb_3 192 (by decide +kernel) (by decide +kernel)
theorem im_X7_split : Cond.instanceMethod yX7_split ∈ TB := tb_3 191 (by decide +kernel) (by decide +kernel)
theorem cd_X7_torn : Cond.code yX7_torn cX7_torn 1 (some .int) ∈ TB := tb_4 44 rfl (by decide +kernel)
theorem se_X7_torn : Cond.selects RX7 yX7_torn yX7_torn ∈ TB := tb_4 43 (by decide +kernel) (by decide +kernel)
theorem im_X7_torn : Cond.instanceMethod yX7_torn ∈ TB := tb_4 42 (by decide +kernel) (by decide +kernel)
theorem cd_X7_tryDeed : Cond.code yX7_tryDeed cX7_tryDeed 2 none ∈ TB := tb_3 156 rfl (by decide +kernel)
theorem se_X7_tryDeed : Cond.selects RX7 yX7_tryDeed yX7_tryDeed ∈ TB := tb_0 19 (by decide +kernel) (by decide +kernel)
theorem im_X7_tryDeed : Cond.instanceMethod yX7_tryDeed ∈ TB := tb_3 155 (by decide +kernel) (by decide +kernel)
theorem cd_X7_turn : Cond.code yX7_turn cX7_turn 3 (some .int) ∈ TB := tb_2 229 rfl (by decide +kernel)
theorem se_X7_turn : Cond.selects RX7 yX7_turn yX7_turn ∈ TB := tb_2 228 (by decide +kernel) (by decide +kernel)
theorem im_X7_turn : Cond.instanceMethod yX7_turn ∈ TB := tb_2 227 (by decide +kernel) (by decide +kernel)
theorem cd_X7_turnChurn : Cond.code yX7_turnChurn cX7_turnChurn 5 (some .int) ∈ TB := tb_2 236 rfl (by decide +kernel)
theorem se_X7_turnChurn : Cond.selects RX7 yX7_turnChurn yX7_turnChurn ∈ TB := tb_0 9 (by decide +kernel) (by decide +kernel)
theorem im_X7_turnChurn : Cond.instanceMethod yX7_turnChurn ∈ TB := tb_2 235 (by decide +kernel) (by decide +kernel)
theorem cd_X7_turnTrialTillCome : Cond.code yX7_turnTrialTillCome cX7_turnTrialTillCome 5 (some .int) ∈ TB := tb_3 98 rfl (by decide +kernel)
theorem se_X7_turnTrialTillCome : Cond.selects RX7 yX7_turnTrialTillCome yX7_turnTrialTillCome ∈ TB := tb_0 16 (by decide +kernel) (by decide +kernel)
theorem im_X7_turnTrialTillCome : Cond.instanceMethod yX7_turnTrialTillCome ∈ TB := tb_3 97 (by decide +kernel) (by decide +kernel)
theorem cd_X7_warm : Cond.code yX7_warm cX7_warm 3 (some .int) ∈ TB := tb_3 46 rfl (by decide +kernel)
theorem se_X7_warm : Cond.selects RX7 yX7_warm yX7_warm ∈ TB := tb_3 45 (by decide +kernel) (by decide +kernel)
theorem im_X7_warm : Cond.instanceMethod yX7_warm ∈ TB := tb_3 44 (by decide +kernel) (by decide +kernel)
theorem cd_X7_wash : Cond.code yX7_wash cX7_wash 5 (some .long) ∈ TB := tb_3 172 rfl (by decide +kernel)
theorem se_X7_wash : Cond.selects RX7 yX7_wash yX7_wash ∈ TB := tb_3 171 (by decide +kernel) (by decide +kernel)
theorem im_X7_wash : Cond.instanceMethod yX7_wash ∈ TB := tb_3 170 (by decide +kernel) (by decide +kernel)
theorem cd_X7_washes : Cond.code yX7_washes cX7_washes 6 (some .int) ∈ TB := tb_3 186 rfl (by decide +kernel)
theorem se_X7_washes : Cond.selects RX7 yX7_washes yX7_washes ∈ TB := tb_3 185 (by decide +kernel) (by decide +kernel)
theorem im_X7_washes : Cond.instanceMethod yX7_washes ∈ TB := tb_3 184 (by decide +kernel) (by decide +kernel)
theorem cd_X7_why : Cond.code yX7_why cX7_why 5 (some .int) ∈ TB := tb_3 144 rfl (by decide +kernel)
theorem se_X7_why : Cond.selects RX7 yX7_why yX7_why ∈ TB := tb_3 143 (by decide +kernel) (by decide +kernel)
theorem im_X7_why : Cond.instanceMethod yX7_why ∈ TB := tb_3 142 (by decide +kernel) (by decide +kernel)
theorem cd_X7_witch : Cond.code yX7_witch cX7_witch 11 (some .long) ∈ TB := tb_3 227 rfl (by decide +kernel)
theorem se_X7_witch : Cond.selects RX7 yX7_witch yX7_witch ∈ TB := tb_3 226 (by decide +kernel) (by decide +kernel)
theorem im_X7_witch : Cond.instanceMethod yX7_witch ∈ TB := tb_3 225 (by decide +kernel) (by decide +kernel)
theorem cd_X7_without : Cond.code yX7_without cX7_without 6 (some .int) ∈ TB := tb_3 125 rfl (by decide +kernel)
theorem se_X7_without : Cond.selects RX7 yX7_without yX7_without ∈ TB := tb_3 124 (by decide +kernel) (by decide +kernel)
theorem im_X7_without : Cond.instanceMethod yX7_without ∈ TB := tb_3 123 (by decide +kernel) (by decide +kernel)
theorem cd_X7_workWater : Cond.code yX7_workWater cX7_workWater 6 none ∈ TB := tb_3 205 rfl (by decide +kernel)
theorem se_X7_workWater : Cond.selects RX7 yX7_workWater yX7_workWater ∈ TB := tb_0 20 (by decide +kernel) (by decide +kernel)
theorem im_X7_workWater : Cond.instanceMethod yX7_workWater ∈ TB := tb_3 204 (by decide +kernel) (by decide +kernel)
theorem cd_X7_worked : Cond.code yX7_worked cX7_worked 4 (some .int) ∈ TB := tb_3 197 rfl (by decide +kernel)
theorem se_X7_worked : Cond.selects RX7 yX7_worked yX7_worked ∈ TB := tb_3 196 (by decide +kernel) (by decide +kernel)
theorem im_X7_worked : Cond.instanceMethod yX7_worked ∈ TB := tb_3 195 (by decide +kernel) (by decide +kernel)
theorem cd_X8_above : Cond.code yX8_above cX8_above 4 (some .int) ∈ TB := tb_5 187 rfl (by decide +kernel)
theorem st_X8_above : Cond.static yX8_above ∈ TB := tb_5 186 (by decide +kernel) (by decide +kernel)
theorem cd_X8_areCows : Cond.code yX8_areCows cX8_areCows 2 (some .boolean) ∈ TB := tb_5 10 rfl (by decide +kernel)
theorem se_X8_areCows : Cond.selects RX8 yX8_areCows yX8_areCows ∈ TB := tb_0 32 (by decide +kernel) (by decide +kernel)
theorem im_X8_areCows : Cond.instanceMethod yX8_areCows ∈ TB := tb_5 9 (by decide +kernel) (by decide +kernel)
theorem cd_X8_awake : Cond.code yX8_awake cX8_awake 1 none ∈ TB := tb_5 18 rfl (by decide +kernel)
theorem se_X8_awake : Cond.selects RX8 yX8_awake yX8_awake ∈ TB := tb_0 33 (by decide +kernel) (by decide +kernel)
theorem im_X8_awake : Cond.instanceMethod yX8_awake ∈ TB := tb_5 17 (by decide +kernel) (by decide +kernel)
theorem cd_X8_back : Cond.code yX8_back cX8_back 2 (some .int) ∈ TB := tb_5 204 rfl (by decide +kernel)
theorem se_X8_back : Cond.selects RX8 yX8_back yX8_back ∈ TB := tb_5 203 (by decide +kernel) (by decide +kernel)
theorem im_X8_back : Cond.instanceMethod yX8_back ∈ TB := tb_5 202 (by decide +kernel) (by decide +kernel)
theorem cd_X8_bitsOf : Cond.code yX8_bitsOf cX8_bitsOf 3 (some .int) ∈ TB := tb_5 110 rfl (by decide +kernel)
theorem st_X8_bitsOf : Cond.static yX8_bitsOf ∈ TB := tb_5 109 (by decide +kernel) (by decide +kernel)
theorem cd_X8_byteAt : Cond.code yX8_byteAt cX8_byteAt 2 (some .int) ∈ TB := tb_4 192 rfl (by decide +kernel)
theorem se_X8_byteAt : Cond.selects RX8 yX8_byteAt yX8_byteAt ∈ TB := tb_0 25 (by decide +kernel) (by decide +kernel)
theorem im_X8_byteAt : Cond.instanceMethod yX8_byteAt ∈ TB := tb_4 191 (by decide +kernel) (by decide +kernel)
theorem cd_X8_comes : Cond.code yX8_comes cX8_comes 4 (some .int) ∈ TB := tb_5 90 rfl (by decide +kernel)
theorem se_X8_comes : Cond.selects RX8 yX8_comes yX8_comes ∈ TB := tb_5 89 (by decide +kernel) (by decide +kernel)
theorem im_X8_comes : Cond.instanceMethod yX8_comes ∈ TB := tb_5 88 (by decide +kernel) (by decide +kernel)
theorem cd_X8_copies : Cond.code yX8_copies cX8_copies 4 none ∈ TB := tb_5 135 rfl (by decide +kernel)
theorem se_X8_copies : Cond.selects RX8 yX8_copies yX8_copies ∈ TB := tb_0 47 (by decide +kernel) (by decide +kernel)
theorem im_X8_copies : Cond.instanceMethod yX8_copies ∈ TB := tb_5 134 (by decide +kernel) (by decide +kernel)
theorem cd_X8_count : Cond.code yX8_count cX8_count 2 (some .int) ∈ TB := tb_5 225 rfl (by decide +kernel)
theorem se_X8_count : Cond.selects RX8 yX8_count yX8_count ∈ TB := tb_5 224 (by decide +kernel) (by decide +kernel)
theorem im_X8_count : Cond.instanceMethod yX8_count ∈ TB := tb_5 223 (by decide +kernel) (by decide +kernel)
theorem cd_X8_cow : Cond.code yX8_cow cX8_cow 3 (some .int) ∈ TB := tb_4 233 rfl (by decide +kernel)
theorem se_X8_cow : Cond.selects RX8 yX8_cow yX8_cow ∈ TB := tb_4 232 (by decide +kernel) (by decide +kernel)
theorem im_X8_cow : Cond.instanceMethod yX8_cow ∈ TB := tb_4 231 (by decide +kernel) (by decide +kernel)
theorem cd_X8_dairy : Cond.code yX8_dairy cX8_dairy 3 (some .int) ∈ TB := tb_4 184 rfl (by decide +kernel)
theorem se_X8_dairy : Cond.selects RX8 yX8_dairy yX8_dairy ∈ TB := tb_4 183 (by decide +kernel) (by decide +kernel)
theorem im_X8_dairy : Cond.instanceMethod yX8_dairy ∈ TB := tb_4 182 (by decide +kernel) (by decide +kernel)
theorem cd_X8_drops : Cond.code yX8_drops cX8_drops 2 (some .int) ∈ TB := tb_5 82 rfl (by decide +kernel)
theorem se_X8_drops : Cond.selects RX8 yX8_drops yX8_drops ∈ TB := tb_5 81 (by decide +kernel) (by decide +kernel)
theorem im_X8_drops : Cond.instanceMethod yX8_drops ∈ TB := tb_5 80 (by decide +kernel) (by decide +kernel)
theorem cd_X8_end : Cond.code yX8_end cX8_end 3 (some .int) ∈ TB := tb_4 177 rfl (by decide +kernel)
theorem se_X8_end : Cond.selects RX8 yX8_end yX8_end ∈ TB := tb_4 176 (by decide +kernel) (by decide +kernel)
theorem im_X8_end : Cond.instanceMethod yX8_end ∈ TB := tb_4 175 (by decide +kernel) (by decide +kernel)
theorem cd_X8_fails : Cond.code yX8_fails cX8_fails 2 none ∈ TB := tb_4 200 rfl (by decide +kernel)
theorem se_X8_fails : Cond.selects RX8 yX8_fails yX8_fails ∈ TB := tb_0 26 (by decide +kernel) (by decide +kernel)
theorem im_X8_fails : Cond.instanceMethod yX8_fails ∈ TB := tb_4 199 (by decide +kernel) (by decide +kernel)
theorem cd_X8_fatFrom : Cond.code yX8_fatFrom cX8_fatFrom 5 (some .int) ∈ TB := tb_5 45 rfl (by decide +kernel)
theorem se_X8_fatFrom : Cond.selects RX8 yX8_fatFrom yX8_fatFrom ∈ TB := tb_0 38 (by decide +kernel) (by decide +kernel)
theorem im_X8_fatFrom : Cond.instanceMethod yX8_fatFrom ∈ TB := tb_5 44 (by decide +kernel) (by decide +kernel)
theorem cd_X8_fault : Cond.code yX8_fault cX8_fault 1 (some .int) ∈ TB := tb_4 222 rfl (by decide +kernel)
theorem se_X8_fault : Cond.selects RX8 yX8_fault yX8_fault ∈ TB := tb_4 221 (by decide +kernel) (by decide +kernel)
theorem im_X8_fault : Cond.instanceMethod yX8_fault ∈ TB := tb_4 220 (by decide +kernel) (by decide +kernel)
theorem cd_X8_feed : Cond.code yX8_feed cX8_feed 4 (some .int) ∈ TB := tb_4 173 rfl (by decide +kernel)
theorem se_X8_feed : Cond.selects RX8 yX8_feed yX8_feed ∈ TB := tb_4 172 (by decide +kernel) (by decide +kernel)
theorem im_X8_feed : Cond.instanceMethod yX8_feed ∈ TB := tb_4 171 (by decide +kernel) (by decide +kernel)
theorem cd_X8_feeds : Cond.code yX8_feeds cX8_feeds 4 (some .int) ∈ TB := tb_5 1 rfl (by decide +kernel)
theorem se_X8_feeds : Cond.selects RX8 yX8_feeds yX8_feeds ∈ TB := tb_5 0 (by decide +kernel) (by decide +kernel)
theorem im_X8_feeds : Cond.instanceMethod yX8_feeds ∈ TB := tb_4 239 (by decide +kernel) (by decide +kernel)
theorem cd_X8_fill : Cond.code yX8_fill cX8_fill 3 (some .int) ∈ TB := tb_5 6 rfl (by decide +kernel)
theorem se_X8_fill : Cond.selects RX8 yX8_fill yX8_fill ∈ TB := tb_5 5 (by decide +kernel) (by decide +kernel)
theorem im_X8_fill : Cond.instanceMethod yX8_fill ∈ TB := tb_5 4 (by decide +kernel) (by decide +kernel)
theorem cd_X8_fills : Cond.code yX8_fills cX8_fills 7 none ∈ TB := tb_4 216 rfl (by decide +kernel)
theorem se_X8_fills : Cond.selects RX8 yX8_fills yX8_fills ∈ TB := tb_0 30 (by decide +kernel) (by decide +kernel)
theorem im_X8_fills : Cond.instanceMethod yX8_fills ∈ TB := tb_4 215 (by decide +kernel) (by decide +kernel)
theorem cd_X8_forget : Cond.code yX8_forget cX8_forget 2 (some .int) ∈ TB := tb_5 118 rfl (by decide +kernel)
theorem se_X8_forget : Cond.selects RX8 yX8_forget yX8_forget ∈ TB := tb_5 117 (by decide +kernel) (by decide +kernel)
theorem im_X8_forget : Cond.instanceMethod yX8_forget ∈ TB := tb_5 116 (by decide +kernel) (by decide +kernel)
theorem cd_X8_half : Cond.code yX8_half cX8_half 1 (some .int) ∈ TB := tb_5 53 rfl (by decide +kernel)
theorem se_X8_half : Cond.selects RX8 yX8_half yX8_half ∈ TB := tb_5 52 (by decide +kernel) (by decide +kernel)
theorem im_X8_half : Cond.instanceMethod yX8_half ∈ TB := tb_5 51 (by decide +kernel) (by decide +kernel)
theorem cd_X8_halves : Cond.code yX8_halves cX8_halves 3 none ∈ TB := tb_5 57 rfl (by decide +kernel)
theorem se_X8_halves : Cond.selects RX8 yX8_halves yX8_halves ∈ TB := tb_0 39 (by decide +kernel) (by decide +kernel)
theorem im_X8_halves : Cond.instanceMethod yX8_halves ∈ TB := tb_5 56 (by decide +kernel) (by decide +kernel)
theorem cd_X8_hardness : Cond.code yX8_hardness cX8_hardness 5 (some .int) ∈ TB := tb_5 41 rfl (by decide +kernel)
theorem se_X8_hardness : Cond.selects RX8 yX8_hardness yX8_hardness ∈ TB := tb_0 37 (by decide +kernel) (by decide +kernel)
theorem im_X8_hardness : Cond.instanceMethod yX8_hardness ∈ TB := tb_5 40 (by decide +kernel) (by decide +kernel)
theorem cd_X8_in : Cond.code yX8_in cX8_in 6 (some .boolean) ∈ TB := tb_4 180 rfl (by decide +kernel)
theorem st_X8_in : Cond.static yX8_in ∈ TB := tb_4 179 (by decide +kernel) (by decide +kernel)
theorem cd_X8_init : Cond.code yX8_init cX8_init 1 none ∈ TB := tb_4 61 rfl (by decide +kernel)
theorem im_X8_init : Cond.instanceMethod yX8_init ∈ TB := tb_4 60 (by decide +kernel) (by decide +kernel)
theorem cd_X8_isCow : Cond.code yX8_isCow cX8_isCow 2 (some .boolean) ∈ TB := tb_4 237 rfl (by decide +kernel)
theorem se_X8_isCow : Cond.selects RX8 yX8_isCow yX8_isCow ∈ TB := tb_0 31 (by decide +kernel) (by decide +kernel)
theorem im_X8_isCow : Cond.instanceMethod yX8_isCow ∈ TB := tb_4 236 (by decide +kernel) (by decide +kernel)
theorem cd_X8_isOver : Cond.code yX8_isOver cX8_isOver 2 (some .boolean) ∈ TB := tb_5 77 rfl (by decide +kernel)
theorem se_X8_isOver : Cond.selects RX8 yX8_isOver yX8_isOver ∈ TB := tb_0 43 (by decide +kernel) (by decide +kernel)
theorem im_X8_isOver : Cond.instanceMethod yX8_isOver ∈ TB := tb_5 76 (by decide +kernel) (by decide +kernel)
theorem cd_X8_isPace : Cond.code yX8_isPace cX8_isPace 1 (some .boolean) ∈ TB := tb_5 25 rfl (by decide +kernel)
theorem st_X8_isPace : Cond.static yX8_isPace ∈ TB := tb_5 24 (by decide +kernel) (by decide +kernel)
theorem cd_X8_isRod : Cond.code yX8_isRod cX8_isRod 3 (some .boolean) ∈ TB := tb_5 184 rfl (by decide +kernel)
theorem st_X8_isRod : Cond.static yX8_isRod ∈ TB := tb_5 183 (by decide +kernel) (by decide +kernel)
theorem cd_X8_isSo : Cond.code yX8_isSo cX8_isSo 6 (some .boolean) ∈ TB := tb_5 127 rfl (by decide +kernel)
theorem se_X8_isSo : Cond.selects RX8 yX8_isSo yX8_isSo ∈ TB := tb_0 46 (by decide +kernel) (by decide +kernel)
theorem im_X8_isSo : Cond.instanceMethod yX8_isSo ∈ TB := tb_5 126 (by decide +kernel) (by decide +kernel)
theorem cd_X8_isSwollen : Cond.code yX8_isSwollen cX8_isSwollen 2 (some .boolean) ∈ TB := tb_5 33 rfl (by decide +kernel)
theorem se_X8_isSwollen : Cond.selects RX8 yX8_isSwollen yX8_isSwollen ∈ TB := tb_0 35 (by decide +kernel) (by decide +kernel)
theorem im_X8_isSwollen : Cond.instanceMethod yX8_isSwollen ∈ TB := tb_5 32 (by decide +kernel) (by decide +kernel)
theorem cd_X8_isWarm : Cond.code yX8_isWarm cX8_isWarm 1 (some .boolean) ∈ TB := tb_5 13 rfl (by decide +kernel)
theorem st_X8_isWarm : Cond.static yX8_isWarm ∈ TB := tb_5 12 (by decide +kernel) (by decide +kernel)
theorem cd_X8_isWash : Cond.code yX8_isWash cX8_isWash 2 (some .boolean) ∈ TB := tb_5 146 rfl (by decide +kernel)
theorem st_X8_isWash : Cond.static yX8_isWash ∈ TB := tb_5 145 (by decide +kernel) (by decide +kernel)
theorem cd_X8_joins : Cond.code yX8_joins cX8_joins 6 none ∈ TB := tb_5 37 rfl (by decide +kernel)
theorem se_X8_joins : Cond.selects RX8 yX8_joins yX8_joins ∈ TB := tb_0 36 (by decide +kernel) (by decide +kernel)
theorem im_X8_joins : Cond.instanceMethod yX8_joins ∈ TB := tb_5 36 (by decide +kernel) (by decide +kernel)
theorem cd_X8_keep : Cond.code yX8_keep cX8_keep 3 (some .int) ∈ TB := tb_5 200 rfl (by decide +kernel)
theorem se_X8_keep : Cond.selects RX8 yX8_keep yX8_keep ∈ TB := tb_5 199 (by decide +kernel) (by decide +kernel)
theorem im_X8_keep : Cond.instanceMethod yX8_keep ∈ TB := tb_5 198 (by decide +kernel) (by decide +kernel)
theorem cd_X8_keeps : Cond.code yX8_keeps cX8_keeps 5 (some .int) ∈ TB := tb_5 176 rfl (by decide +kernel)
theorem se_X8_keeps : Cond.selects RX8 yX8_keeps yX8_keeps ∈ TB := tb_5 175 (by decide +kernel) (by decide +kernel)
theorem im_X8_keeps : Cond.instanceMethod yX8_keeps ∈ TB := tb_5 174 (by decide +kernel) (by decide +kernel)
theorem cd_X8_lay : Cond.code yX8_lay cX8_lay 4 (some .int) ∈ TB := tb_5 212 rfl (by decide +kernel)
theorem se_X8_lay : Cond.selects RX8 yX8_lay yX8_lay ∈ TB := tb_5 211 (by decide +kernel) (by decide +kernel)
theorem im_X8_lay : Cond.instanceMethod yX8_lay ∈ TB := tb_5 210 (by decide +kernel) (by decide +kernel)
theorem cd_X8_layPlan : Cond.code yX8_layPlan cX8_layPlan 10 (some .boolean) ∈ TB := tb_5 103 rfl (by decide +kernel)
theorem se_X8_layPlan : Cond.selects RX8 yX8_layPlan yX8_layPlan ∈ TB := tb_0 45 (by decide +kernel) (by decide +kernel)
theorem im_X8_layPlan : Cond.instanceMethod yX8_layPlan ∈ TB := tb_5 102 (by decide +kernel) (by decide +kernel)
theorem cd_X8_layWet : Cond.code yX8_layWet cX8_layWet 6 (some .boolean) ∈ TB := tb_5 171 rfl (by decide +kernel)
theorem se_X8_layWet : Cond.selects RX8 yX8_layWet yX8_layWet ∈ TB := tb_0 48 (by decide +kernel) (by decide +kernel)
theorem im_X8_layWet : Cond.instanceMethod yX8_layWet ∈ TB := tb_5 170 (by decide +kernel) (by decide +kernel)
theorem cd_X8_left : Cond.code yX8_left cX8_left 2 (some .int) ∈ TB := tb_5 69 rfl (by decide +kernel)
theorem se_X8_left : Cond.selects RX8 yX8_left yX8_left ∈ TB := tb_0 41 (by decide +kernel) (by decide +kernel)
theorem im_X8_left : Cond.instanceMethod yX8_left ∈ TB := tb_5 68 (by decide +kernel) (by decide +kernel)
theorem cd_X8_lowest : Cond.code yX8_lowest cX8_lowest 11 (some .long) ∈ TB := tb_5 154 rfl (by decide +kernel)
theorem st_X8_lowest : Cond.static yX8_lowest ∈ TB := tb_5 153 (by decide +kernel) (by decide +kernel)
theorem cd_X8_nameHere : Cond.code yX8_nameHere cX8_nameHere 4 (some .int) ∈ TB := tb_4 208 rfl (by decide +kernel)
theorem se_X8_nameHere : Cond.selects RX8 yX8_nameHere yX8_nameHere ∈ TB := tb_0 28 (by decide +kernel) (by decide +kernel)
theorem im_X8_nameHere : Cond.instanceMethod yX8_nameHere ∈ TB := tb_4 207 (by decide +kernel) (by decide +kernel)
theorem cd_X8_near : Cond.code yX8_near cX8_near 8 (some .int) ∈ TB := tb_5 191 rfl (by decide +kernel)
theorem se_X8_near : Cond.selects RX8 yX8_near yX8_near ∈ TB := tb_5 190 (by decide +kernel) (by decide +kernel)
theorem im_X8_near : Cond.instanceMethod yX8_near ∈ TB := tb_5 189 (by decide +kernel) (by decide +kernel)
theorem cd_X8_next : Cond.code yX8_next cX8_next 8 (some .int) ∈ TB := tb_5 131 rfl (by decide +kernel)
theorem se_X8_next : Cond.selects RX8 yX8_next yX8_next ∈ TB := tb_5 130 (by decide +kernel) (by decide +kernel)
theorem im_X8_next : Cond.instanceMethod yX8_next ∈ TB := tb_5 129 (by decide +kernel) (by decide +kernel)
theorem cd_X8_now : Cond.code yX8_now cX8_now 2 (some .int) ∈ TB := tb_5 61 rfl (by decide +kernel)
theorem se_X8_now : Cond.selects RX8 yX8_now yX8_now ∈ TB := tb_5 60 (by decide +kernel) (by decide +kernel)
theorem im_X8_now : Cond.instanceMethod yX8_now ∈ TB := tb_5 59 (by decide +kernel) (by decide +kernel)
theorem cd_X8_number : Cond.code yX8_number cX8_number 4 (some .int) ∈ TB := tb_4 212 rfl (by decide +kernel)
theorem se_X8_number : Cond.selects RX8 yX8_number yX8_number ∈ TB := tb_0 29 (by decide +kernel) (by decide +kernel)
theorem im_X8_number : Cond.instanceMethod yX8_number ∈ TB := tb_4 211 (by decide +kernel) (by decide +kernel)
theorem cd_X8_over : Cond.code yX8_over cX8_over 3 (some .int) ∈ TB := tb_5 139 rfl (by decide +kernel)
theorem se_X8_over : Cond.selects RX8 yX8_over yX8_over ∈ TB := tb_5 138 (by decide +kernel) (by decide +kernel)
theorem im_X8_over : Cond.instanceMethod yX8_over ∈ TB := tb_5 137 (by decide +kernel) (by decide +kernel)
theorem cd_X8_plan : Cond.code yX8_plan cX8_plan 3 (some .int) ∈ TB := tb_5 98 rfl (by decide +kernel)
theorem se_X8_plan : Cond.selects RX8 yX8_plan yX8_plan ∈ TB := tb_5 97 (by decide +kernel) (by decide +kernel)
theorem im_X8_plan : Cond.instanceMethod yX8_plan ∈ TB := tb_5 96 (by decide +kernel) (by decide +kernel)
theorem cd_X8_power : Cond.code yX8_power cX8_power 6 (some .long) ∈ TB := tb_5 151 rfl (by decide +kernel)
theorem st_X8_power : Cond.static yX8_power ∈ TB := tb_5 150 (by decide +kernel) (by decide +kernel)
theorem cd_X8_read : Cond.code yX8_read cX8_read 10 (some .int) ∈ TB := tb_5 216 rfl (by decide +kernel)
theorem se_X8_read : Cond.selects RX8 yX8_read yX8_read ∈ TB := tb_5 215 (by decide +kernel) (by decide +kernel)
theorem im_X8_read : Cond.instanceMethod yX8_read ∈ TB := tb_5 214 (by decide +kernel) (by decide +kernel)
theorem cd_X8_readLine : Cond.code yX8_readLine cX8_readLine 3 none ∈ TB := tb_4 204 rfl (by decide +kernel)
theorem se_X8_readLine : Cond.selects RX8 yX8_readLine yX8_readLine ∈ TB := tb_0 27 (by decide +kernel) (by decide +kernel)
theorem im_X8_readLine : Cond.instanceMethod yX8_readLine ∈ TB := tb_4 203 (by decide +kernel) (by decide +kernel)
theorem cd_X8_rod : Cond.code yX8_rod cX8_rod 6 (some .int) ∈ TB := tb_5 180 rfl (by decide +kernel)
theorem se_X8_rod : Cond.selects RX8 yX8_rod yX8_rod ∈ TB := tb_5 179 (by decide +kernel) (by decide +kernel)
theorem im_X8_rod : Cond.instanceMethod yX8_rod ∈ TB := tb_5 178 (by decide +kernel) (by decide +kernel)
theorem cd_X8_rule : Cond.code yX8_rule cX8_rule 2 (some .int) ∈ TB := tb_4 226 rfl (by decide +kernel)
theorem se_X8_rule : Cond.selects RX8 yX8_rule yX8_rule ∈ TB := tb_4 225 (by decide +kernel) (by decide +kernel)
theorem im_X8_rule : Cond.instanceMethod yX8_rule ∈ TB := tb_4 224 (by decide +kernel) (by decide +kernel)
theorem cd_X8_run : Cond.code yX8_run cX8_run 7 (some .int) ∈ TB := tb_5 86 rfl (by decide +kernel)
theorem se_X8_run : Cond.selects RX8 yX8_run yX8_run ∈ TB := tb_5 85 (by decide +kernel) (by decide +kernel)
theorem im_X8_run : Cond.instanceMethod yX8_run ∈ TB := tb_5 84 (by decide +kernel) (by decide +kernel)
theorem cd_X8_saw : Cond.code yX8_saw cX8_saw 3 (some .int) ∈ TB := tb_5 114 rfl (by decide +kernel)
theorem se_X8_saw : Cond.selects RX8 yX8_saw yX8_saw ∈ TB := tb_5 113 (by decide +kernel) (by decide +kernel)
theorem im_X8_saw : Cond.instanceMethod yX8_saw ∈ TB := tb_5 112 (by decide +kernel) (by decide +kernel)
theorem cd_X8_sheet : Cond.code yX8_sheet cX8_sheet 5 (some .int) ∈ TB := tb_5 208 rfl (by decide +kernel)
theorem se_X8_sheet : Cond.selects RX8 yX8_sheet yX8_sheet ∈ TB := tb_5 207 (by decide +kernel) (by decide +kernel)
theorem im_X8_sheet : Cond.instanceMethod yX8_sheet ∈ TB := tb_5 206 (by decide +kernel) (by decide +kernel)
theorem cd_X8_split : Cond.code yX8_split cX8_split 5 (some .int) ∈ TB := tb_5 163 rfl (by decide +kernel)
theorem se_X8_split : Cond.selects RX8 yX8_split yX8_split ∈ TB := tb_5 162 (by decide +kernel) (by decide +kernel)
theorem im_X8_split : Cond.instanceMethod yX8_split ∈ TB := tb_5 161 (by decide +kernel) (by decide +kernel)
theorem cd_X8_step : Cond.code yX8_step cX8_step 2 none ∈ TB := tb_4 188 rfl (by decide +kernel)
theorem se_X8_step : Cond.selects RX8 yX8_step yX8_step ∈ TB := tb_0 24 (by decide +kernel) (by decide +kernel)
theorem im_X8_step : Cond.instanceMethod yX8_step ∈ TB := tb_4 187 (by decide +kernel) (by decide +kernel)
theorem cd_X8_tillCome : Cond.code yX8_tillCome cX8_tillCome 4 (some .int) ∈ TB := tb_5 94 rfl (by decide +kernel)
theorem se_X8_tillCome : Cond.selects RX8 yX8_tillCome yX8_tillCome ∈ TB := tb_0 44 (by decide +kernel) (by decide +kernel)
theorem im_X8_tillCome : Cond.instanceMethod yX8_tillCome ∈ TB := tb_5 93 (by decide +kernel) (by decide +kernel)
theorem cd_X8_told : Cond.code yX8_told cX8_told 3 (some .int) ∈ TB := tb_5 65 rfl (by decide +kernel)
theorem se_X8_told : Cond.selects RX8 yX8_told yX8_told ∈ TB := tb_0 40 (by decide +kernel) (by decide +kernel)
theorem im_X8_told : Cond.instanceMethod yX8_told ∈ TB := tb_5 64 (by decide +kernel) (by decide +kernel)
theorem cd_X8_torn : Cond.code yX8_torn cX8_torn 1 (some .int) ∈ TB := tb_5 221 rfl (by decide +kernel)
theorem se_X8_torn : Cond.selects RX8 yX8_torn yX8_torn ∈ TB := tb_5 220 (by decide +kernel) (by decide +kernel)
theorem im_X8_torn : Cond.instanceMethod yX8_torn ∈ TB := tb_5 219 (by decide +kernel) (by decide +kernel)
theorem cd_X8_turn : Cond.code yX8_turn cX8_turn 5 (some .int) ∈ TB := tb_5 22 rfl (by decide +kernel)
theorem se_X8_turn : Cond.selects RX8 yX8_turn yX8_turn ∈ TB := tb_5 21 (by decide +kernel) (by decide +kernel)
theorem im_X8_turn : Cond.instanceMethod yX8_turn ∈ TB := tb_5 20 (by decide +kernel) (by decide +kernel)
theorem cd_X8_turns : Cond.code yX8_turns cX8_turns 5 (some .boolean) ∈ TB := tb_5 29 rfl (by decide +kernel)
theorem se_X8_turns : Cond.selects RX8 yX8_turns yX8_turns ∈ TB := tb_0 34 (by decide +kernel) (by decide +kernel)
theorem im_X8_turns : Cond.instanceMethod yX8_turns ∈ TB := tb_5 28 (by decide +kernel) (by decide +kernel)
theorem cd_X8_warm : Cond.code yX8_warm cX8_warm 3 (some .int) ∈ TB := tb_5 49 rfl (by decide +kernel)
theorem se_X8_warm : Cond.selects RX8 yX8_warm yX8_warm ∈ TB := tb_5 48 (by decide +kernel) (by decide +kernel)
theorem im_X8_warm : Cond.instanceMethod yX8_warm ∈ TB := tb_5 47 (by decide +kernel) (by decide +kernel)
theorem cd_X8_wash : Cond.code yX8_wash cX8_wash 5 (some .long) ∈ TB := tb_5 143 rfl (by decide +kernel)
theorem se_X8_wash : Cond.selects RX8 yX8_wash yX8_wash ∈ TB := tb_5 142 (by decide +kernel) (by decide +kernel)
theorem im_X8_wash : Cond.instanceMethod yX8_wash ∈ TB := tb_5 141 (by decide +kernel) (by decide +kernel)
theorem cd_X8_washes : Cond.code yX8_washes cX8_washes 6 (some .int) ∈ TB := tb_5 159 rfl (by decide +kernel)
theorem se_X8_washes : Cond.selects RX8 yX8_washes yX8_washes ∈ TB := tb_5 158 (by decide +kernel) (by decide +kernel)
theorem im_X8_washes : Cond.instanceMethod yX8_washes ∈ TB := tb_5 157 (by decide +kernel) (by decide +kernel)
theorem cd_X8_which : Cond.code yX8_which cX8_which 2 (some .int) ∈ TB := tb_5 73 rfl (by decide +kernel)
theorem se_X8_which : Cond.selects RX8 yX8_which yX8_which ∈ TB := tb_0 42 (by decide +kernel) (by decide +kernel)
theorem im_X8_which : Cond.instanceMethod yX8_which ∈ TB := tb_5 72 (by decide +kernel) (by decide +kernel)
theorem cd_X8_why : Cond.code yX8_why cX8_why 7 (some .int) ∈ TB := tb_5 122 rfl (by decide +kernel)
theorem se_X8_why : Cond.selects RX8 yX8_why yX8_why ∈ TB := tb_5 121 (by decide +kernel) (by decide +kernel)
theorem im_X8_why : Cond.instanceMethod yX8_why ∈ TB := tb_5 120 (by decide +kernel) (by decide +kernel)
theorem cd_X8_witch : Cond.code yX8_witch cX8_witch 11 (some .long) ∈ TB := tb_5 195 rfl (by decide +kernel)
theorem se_X8_witch : Cond.selects RX8 yX8_witch yX8_witch ∈ TB := tb_5 194 (by decide +kernel) (by decide +kernel)
theorem im_X8_witch : Cond.instanceMethod yX8_witch ∈ TB := tb_5 193 (by decide +kernel) (by decide +kernel)
theorem cd_X8_without : Cond.code yX8_without cX8_without 6 (some .int) ∈ TB := tb_5 107 rfl (by decide +kernel)
theorem se_X8_without : Cond.selects RX8 yX8_without yX8_without ∈ TB := tb_5 106 (by decide +kernel) (by decide +kernel)
theorem im_X8_without : Cond.instanceMethod yX8_without ∈ TB := tb_5 105 (by decide +kernel) (by decide +kernel)
theorem cd_X8_worked : Cond.code yX8_worked cX8_worked 4 (some .int) ∈ TB := tb_5 167 rfl (by decide +kernel)
theorem se_X8_worked : Cond.selects RX8 yX8_worked yX8_worked ∈ TB := tb_5 166 (by decide +kernel) (by decide +kernel)
theorem im_X8_worked : Cond.instanceMethod yX8_worked ∈ TB := tb_5 165 (by decide +kernel) (by decide +kernel)
theorem ini_J0 : Cond.initialized RJ0 ∈ TB := tb_1 11 (by decide +kernel) (by decide +kernel)
theorem ini_J1 : Cond.initialized RJ1 ∈ TB := tb_1 12 (by decide +kernel) (by decide +kernel)
theorem ini_J2 : Cond.initialized RJ2 ∈ TB := tb_1 14 (by decide +kernel) (by decide +kernel)
theorem ini_J3 : Cond.initialized RJ3 ∈ TB := tb_1 13 (by decide +kernel) (by decide +kernel)
theorem ini_J6 : Cond.initialized RJ6 ∈ TB := tb_1 16 (by decide +kernel) (by decide +kernel)
theorem ini_J9 : Cond.initialized RJ9 ∈ TB := tb_1 15 (by decide +kernel) (by decide +kernel)
theorem ini_X0 : Cond.initialized RX0 ∈ TB := tb_1 6 (by decide +kernel) (by decide +kernel)
theorem ini_X1 : Cond.initialized RX1 ∈ TB := tb_1 5 (by decide +kernel) (by decide +kernel)
theorem ini_X2 : Cond.initialized RX2 ∈ TB := tb_1 7 (by decide +kernel) (by decide +kernel)
theorem ini_X3 : Cond.initialized RX3 ∈ TB := tb_1 3 (by decide +kernel) (by decide +kernel)
theorem ini_X4 : Cond.initialized RX4 ∈ TB := tb_1 8 (by decide +kernel) (by decide +kernel)
theorem ini_X5 : Cond.initialized RX5 ∈ TB := tb_1 4 (by decide +kernel) (by decide +kernel)
theorem ini_X6 : Cond.initialized RX6 ∈ TB := tb_1 2 (by decide +kernel) (by decide +kernel)
theorem ini_X7 : Cond.initialized RX7 ∈ TB := tb_1 1 (by decide +kernel) (by decide +kernel)
theorem ini_X8 : Cond.initialized RX8 ∈ TB := tb_1 9 (by decide +kernel) (by decide +kernel)
theorem ml_J0_1059 : Cond.methodLink RJ0 1059 yJ3_checkIndex_8e157 ∈ TB := tb_2 124 (by decide +kernel) (by decide +kernel)
theorem ml_J0_335 : Cond.methodLink RJ0 335 yJ0_coder_7d493 ∈ TB := tb_2 102 (by decide +kernel) (by decide +kernel)
theorem ml_J0_492 : Cond.methodLink RJ0 492 yJ0_isLatin1_aae02 ∈ TB := tb_2 112 (by decide +kernel) (by decide +kernel)
theorem ml_J0_495 : Cond.methodLink RJ0 495 yJ1_charAt_3b067 ∈ TB := tb_2 116 (by decide +kernel) (by decide +kernel)
theorem ml_J0_498 : Cond.methodLink RJ0 498 yJ2_charAt_3b067 ∈ TB := tb_2 127 (by decide +kernel) (by decide +kernel)
theorem ml_J1_9 : Cond.methodLink RJ1 9 yJ0_checkIndex_df160 ∈ TB := tb_2 119 (by decide +kernel) (by decide +kernel)
theorem ml_J2_414 : Cond.methodLink RJ2 414 yJ0_checkIndex_df160 ∈ TB := tb_2 136 (by decide +kernel) (by decide +kernel)
theorem ml_J2_48 : Cond.methodLink RJ2 48 yJ2_length_9d52b ∈ TB := tb_2 133 (by decide +kernel) (by decide +kernel)
theorem ml_J2_67 : Cond.methodLink RJ2 67 yJ2_checkIndex_2214a ∈ TB := tb_2 130 (by decide +kernel) (by decide +kernel)
theorem ml_J2_71 : Cond.methodLink RJ2 71 yJ2_getChar_3b067 ∈ TB := tb_2 137 (by decide +kernel) (by decide +kernel)
theorem ml_L_100 : Cond.methodLink RL 100 yX8_why ∈ TB := tb_5 119 (by decide +kernel) (by decide +kernel)
theorem ml_L_101 : Cond.methodLink RL 101 yX7_next ∈ TB := tb_3 149 (by decide +kernel) (by decide +kernel)
theorem ml_L_104 : Cond.methodLink RL 104 yX8_next ∈ TB := tb_5 128 (by decide +kernel) (by decide +kernel)
theorem ml_L_105 : Cond.methodLink RL 105 yX7_over ∈ TB := tb_3 164 (by decide +kernel) (by decide +kernel)
theorem ml_L_108 : Cond.methodLink RL 108 yX8_over ∈ TB := tb_5 136 (by decide +kernel) (by decide +kernel)
theorem ml_L_109 : Cond.methodLink RL 109 yX7_wash ∈ TB := tb_3 169 (by decide +kernel) (by decide +kernel)
theorem ml_L_113 : Cond.methodLink RL 113 yX8_wash ∈ TB := tb_5 140 (by decide +kernel) (by decide +kernel)
theorem ml_L_114 : Cond.methodLink RL 114 yX7_washes ∈ TB := tb_3 183 (by decide +kernel) (by decide +kernel)
theorem ml_L_118 : Cond.methodLink RL 118 yX8_washes ∈ TB := tb_5 156 (by decide +kernel) (by decide +kernel)
theorem ml_L_119 : Cond.methodLink RL 119 yX7_split ∈ TB := tb_3 190 (by decide +kernel) (by decide +kernel)
theorem ml_L_12 : Cond.methodLink RL 12 yX8_init ∈ TB := tb_4 59 (by decide +kernel) (by decide +kernel)
theorem ml_L_122 : Cond.methodLink RL 122 yX8_split ∈ TB := tb_5 160 (by decide +kernel) (by decide +kernel)
theorem ml_L_123 : Cond.methodLink RL 123 yX7_worked ∈ TB := tb_3 194 (by decide +kernel) (by decide +kernel)
theorem ml_L_126 : Cond.methodLink RL 126 yX8_worked ∈ TB := tb_5 164 (by decide +kernel) (by decide +kernel)
theorem ml_L_127 : Cond.methodLink RL 127 yX7_keeps ∈ TB := tb_3 206 (by decide +kernel) (by decide +kernel)
theorem ml_L_130 : Cond.methodLink RL 130 yX8_keeps ∈ TB := tb_5 173 (by decide +kernel) (by decide +kernel)
theorem ml_L_131 : Cond.methodLink RL 131 yX7_rod ∈ TB := tb_3 210 (by decide +kernel) (by decide +kernel)
theorem ml_L_134 : Cond.methodLink RL 134 yX8_rod ∈ TB := tb_5 177 (by decide +kernel) (by decide +kernel)
theorem ml_L_135 : Cond.methodLink RL 135 yX7_near ∈ TB := tb_3 220 (by decide +kernel) (by decide +kernel)
theorem ml_L_138 : Cond.methodLink RL 138 yX8_near ∈ TB := tb_5 188 (by decide +kernel) (by decide +kernel)
theorem ml_L_139 : Cond.methodLink RL 139 yX7_witch ∈ TB := tb_3 224 (by decide +kernel) (by decide +kernel)
theorem ml_L_143 : Cond.methodLink RL 143 yX8_witch ∈ TB := tb_5 192 (by decide +kernel) (by decide +kernel)
theorem ml_L_144 : Cond.methodLink RL 144 yX7_keep ∈ TB := tb_3 228 (by decide +kernel) (by decide +kernel)
theorem ml_L_147 : Cond.methodLink RL 147 yX8_keep ∈ TB := tb_5 197 (by decide +kernel) (by decide +kernel)
theorem ml_L_148 : Cond.methodLink RL 148 yX7_back ∈ TB := tb_3 236 (by decide +kernel) (by decide +kernel)
theorem ml_L_15 : Cond.methodLink RL 15 yX7_feed ∈ TB := tb_2 25 (by decide +kernel) (by decide +kernel)
theorem ml_L_151 : Cond.methodLink RL 151 yX8_back ∈ TB := tb_5 201 (by decide +kernel) (by decide +kernel)
theorem ml_L_152 : Cond.methodLink RL 152 yX7_sheet ∈ TB := tb_4 0 (by decide +kernel) (by decide +kernel)
theorem ml_L_155 : Cond.methodLink RL 155 yX8_sheet ∈ TB := tb_5 205 (by decide +kernel) (by decide +kernel)
theorem ml_L_156 : Cond.methodLink RL 156 yX7_lay ∈ TB := tb_4 12 (by decide +kernel) (by decide +kernel)
theorem ml_L_159 : Cond.methodLink RL 159 yX8_lay ∈ TB := tb_5 209 (by decide +kernel) (by decide +kernel)
theorem ml_L_160 : Cond.methodLink RL 160 yX7_read ∈ TB := tb_4 24 (by decide +kernel) (by decide +kernel)
theorem ml_L_163 : Cond.methodLink RL 163 yX8_read ∈ TB := tb_5 213 (by decide +kernel) (by decide +kernel)
theorem ml_L_164 : Cond.methodLink RL 164 yX7_torn ∈ TB := tb_4 41 (by decide +kernel) (by decide +kernel)
theorem ml_L_167 : Cond.methodLink RL 167 yX8_torn ∈ TB := tb_5 218 (by decide +kernel) (by decide +kernel)
theorem ml_L_168 : Cond.methodLink RL 168 yX7_count ∈ TB := tb_4 45 (by decide +kernel) (by decide +kernel)
theorem ml_L_171 : Cond.methodLink RL 171 yX8_count ∈ TB := tb_5 222 (by decide +kernel) (by decide +kernel)
theorem ml_L_19 : Cond.methodLink RL 19 yX8_feed ∈ TB := tb_4 170 (by decide +kernel) (by decide +kernel)
theorem ml_L_20 : Cond.methodLink RL 20 yX7_end ∈ TB := tb_2 33 (by decide +kernel) (by decide +kernel)
theorem ml_L_24 : Cond.methodLink RL 24 yX8_end ∈ TB := tb_4 174 (by decide +kernel) (by decide +kernel)
theorem ml_L_25 : Cond.methodLink RL 25 yX7_dairy ∈ TB := tb_2 40 (by decide +kernel) (by decide +kernel)
theorem ml_L_29 : Cond.methodLink RL 29 yX8_dairy ∈ TB := tb_4 181 (by decide +kernel) (by decide +kernel)
theorem ml_L_30 : Cond.methodLink RL 30 yX7_fault ∈ TB := tb_2 197 (by decide +kernel) (by decide +kernel)
theorem ml_L_33 : Cond.methodLink RL 33 yX8_fault ∈ TB := tb_4 219 (by decide +kernel) (by decide +kernel)
theorem ml_L_34 : Cond.methodLink RL 34 yX7_rule ∈ TB := tb_2 201 (by decide +kernel) (by decide +kernel)
theorem ml_L_37 : Cond.methodLink RL 37 yX8_rule ∈ TB := tb_4 223 (by decide +kernel) (by decide +kernel)
theorem ml_L_38 : Cond.methodLink RL 38 yX7_cow ∈ TB := tb_2 205 (by decide +kernel) (by decide +kernel)
theorem ml_L_42 : Cond.methodLink RL 42 yX8_cow ∈ TB := tb_4 230 (by decide +kernel) (by decide +kernel)
theorem ml_L_43 : Cond.methodLink RL 43 yX7_feeds ∈ TB := tb_2 213 (by decide +kernel) (by decide +kernel)
theorem ml_L_46 : Cond.methodLink RL 46 yX8_feeds ∈ TB := tb_4 238 (by decide +kernel) (by decide +kernel)
theorem ml_L_47 : Cond.methodLink RL 47 yX7_fill ∈ TB := tb_2 217 (by decide +kernel) (by decide +kernel)
theorem ml_L_50 : Cond.methodLink RL 50 yX8_fill ∈ TB := tb_5 3 (by decide +kernel) (by decide +kernel)
theorem ml_L_51 : Cond.methodLink RL 51 yX7_turn ∈ TB := tb_2 226 (by decide +kernel) (by decide +kernel)
theorem ml_L_54 : Cond.methodLink RL 54 yX8_turn ∈ TB := tb_5 19 (by decide +kernel) (by decide +kernel)
theorem ml_L_55 : Cond.methodLink RL 55 yX7_warm ∈ TB := tb_3 43 (by decide +kernel) (by decide +kernel)
theorem ml_L_58 : Cond.methodLink RL 58 yX8_warm ∈ TB := tb_5 46 (by decide +kernel) (by decide +kernel)
theorem ml_L_59 : Cond.methodLink RL 59 yX7_half ∈ TB := tb_3 47 (by decide +kernel) (by decide +kernel)
theorem ml_L_62 : Cond.methodLink RL 62 yX8_half ∈ TB := tb_5 50 (by decide +kernel) (by decide +kernel)
theorem ml_L_63 : Cond.methodLink RL 63 yX7_now ∈ TB := tb_3 55 (by decide +kernel) (by decide +kernel)
theorem ml_L_66 : Cond.methodLink RL 66 yX8_now ∈ TB := tb_5 58 (by decide +kernel) (by decide +kernel)
theorem ml_L_67 : Cond.methodLink RL 67 yX7_drops ∈ TB := tb_3 75 (by decide +kernel) (by decide +kernel)
theorem ml_L_70 : Cond.methodLink RL 70 yX8_drops ∈ TB := tb_5 79 (by decide +kernel) (by decide +kernel)
theorem ml_L_71 : Cond.methodLink RL 71 yX7_run ∈ TB := tb_3 83 (by decide +kernel) (by decide +kernel)
theorem ml_L_75 : Cond.methodLink RL 75 yX8_run ∈ TB := tb_5 83 (by decide +kernel) (by decide +kernel)
theorem ml_L_76 : Cond.methodLink RL 76 yX7_comes ∈ TB := tb_3 91 (by decide +kernel) (by decide +kernel)
theorem ml_L_80 : Cond.methodLink RL 80 yX8_comes ∈ TB := tb_5 87 (by decide +kernel) (by decide +kernel)
theorem ml_L_81 : Cond.methodLink RL 81 yX7_plan ∈ TB := tb_3 101 (by decide +kernel) (by decide +kernel)
theorem ml_L_84 : Cond.methodLink RL 84 yX8_plan ∈ TB := tb_5 95 (by decide +kernel) (by decide +kernel)
theorem ml_L_85 : Cond.methodLink RL 85 yX7_without ∈ TB := tb_3 122 (by decide +kernel) (by decide +kernel)
theorem ml_L_88 : Cond.methodLink RL 88 yX8_without ∈ TB := tb_5 104 (by decide +kernel) (by decide +kernel)
theorem ml_L_89 : Cond.methodLink RL 89 yX7_saw ∈ TB := tb_3 133 (by decide +kernel) (by decide +kernel)
theorem ml_L_9 : Cond.methodLink RL 9 yX7_init ∈ TB := tb_1 19 (by decide +kernel) (by decide +kernel)
theorem ml_L_92 : Cond.methodLink RL 92 yX8_saw ∈ TB := tb_5 111 (by decide +kernel) (by decide +kernel)
theorem ml_L_93 : Cond.methodLink RL 93 yX7_forget ∈ TB := tb_3 137 (by decide +kernel) (by decide +kernel)
theorem ml_L_96 : Cond.methodLink RL 96 yX8_forget ∈ TB := tb_5 115 (by decide +kernel) (by decide +kernel)
theorem ml_L_97 : Cond.methodLink RL 97 yX7_why ∈ TB := tb_3 141 (by decide +kernel) (by decide +kernel)
theorem ml_X0_1 : Cond.methodLink RX0 1 objectInit ∈ TB := tb_1 171 (by decide +kernel) (by decide +kernel)
theorem ml_X1_102 : Cond.methodLink RX1 102 yX1_left ∈ TB := tb_3 63 (by decide +kernel) (by decide +kernel)
theorem ml_X1_105 : Cond.methodLink RX1 105 yX1_outcome ∈ TB := tb_3 67 (by decide +kernel) (by decide +kernel)
theorem ml_X1_108 : Cond.methodLink RX1 108 yX1_isMostlyGreatest ∈ TB := tb_3 71 (by decide +kernel) (by decide +kernel)
theorem ml_X1_19 : Cond.methodLink RX1 19 yX6_litresOf ∈ TB := tb_2 188 (by decide +kernel) (by decide +kernel)
theorem ml_X1_28 : Cond.methodLink RX1 28 yX6_hardOf ∈ TB := tb_2 192 (by decide +kernel) (by decide +kernel)
theorem ml_X1_3 : Cond.methodLink RX1 3 objectInit ∈ TB := tb_1 140 (by decide +kernel) (by decide +kernel)
theorem ml_X1_46 : Cond.methodLink RX1 46 arraycopyName ∈ TB := tb_3 161 (by decide +kernel) (by decide +kernel)
theorem ml_X1_55 : Cond.methodLink RX1 55 yX1_hasCome ∈ TB := tb_3 5 (by decide +kernel) (by decide +kernel)
theorem ml_X1_59 : Cond.methodLink RX1 59 yX6_base ∈ TB := tb_3 24 (by decide +kernel) (by decide +kernel)
theorem ml_X1_63 : Cond.methodLink RX1 63 yJ9_floorDiv_7cf53 ∈ TB := tb_3 25 (by decide +kernel) (by decide +kernel)
theorem ml_X1_69 : Cond.methodLink RX1 69 Lib.Math.min.name ∈ TB := tb_3 13 (by decide +kernel) (by decide +kernel)
theorem ml_X1_72 : Cond.methodLink RX1 72 Lib.Math.max.name ∈ TB := tb_3 28 (by decide +kernel) (by decide +kernel)
theorem ml_X1_75 : Cond.methodLink RX1 75 yX1_isSwollen ∈ TB := tb_3 1 (by decide +kernel) (by decide +kernel)
theorem ml_X1_79 : Cond.methodLink RX1 79 yX1_beatIn ∈ TB := tb_3 9 (by decide +kernel) (by decide +kernel)
theorem ml_X1_83 : Cond.methodLink RX1 83 yX1_rate ∈ TB := tb_3 16 (by decide +kernel) (by decide +kernel)
theorem ml_X1_87 : Cond.methodLink RX1 87 yX1_joinDrops ∈ TB := tb_3 31 (by decide +kernel) (by decide +kernel)
theorem ml_X1_91 : Cond.methodLink RX1 91 yX1_breakIfDue ∈ TB := tb_3 35 (by decide +kernel) (by decide +kernel)
theorem ml_X1_95 : Cond.methodLink RX1 95 yX1_hardness ∈ TB := tb_3 20 (by decide +kernel) (by decide +kernel)
theorem ml_X1_99 : Cond.methodLink RX1 99 yX1_fatFrom ∈ TB := tb_3 39 (by decide +kernel) (by decide +kernel)
theorem ml_X2_1 : Cond.methodLink RX2 1 objectInit ∈ TB := tb_1 195 (by decide +kernel) (by decide +kernel)
theorem ml_X3_1 : Cond.methodLink RX3 1 objectInit ∈ TB := tb_1 73 (by decide +kernel) (by decide +kernel)
theorem ml_X3_120 : Cond.methodLink RX3 120 yX6_put ∈ TB := tb_2 168 (by decide +kernel) (by decide +kernel)
theorem ml_X3_23 : Cond.methodLink RX3 23 yX6_becomeFirst ∈ TB := tb_2 48 (by decide +kernel) (by decide +kernel)
theorem ml_X3_26 : Cond.methodLink RX3 26 yX5_rewind ∈ TB := tb_2 55 (by decide +kernel) (by decide +kernel)
theorem ml_X3_42 : Cond.methodLink RX3 42 yX5_advance ∈ TB := tb_2 59 (by decide +kernel) (by decide +kernel)
theorem ml_X3_48 : Cond.methodLink RX3 48 yX3_takeToken ∈ TB := tb_2 75 (by decide +kernel) (by decide +kernel)
theorem ml_X3_51 : Cond.methodLink RX3 51 yX3_refuse ∈ TB := tb_2 79 (by decide +kernel) (by decide +kernel)
theorem ml_X3_59 : Cond.methodLink RX3 59 yX3_beginLine ∈ TB := tb_2 85 (by decide +kernel) (by decide +kernel)
theorem ml_X3_65 : Cond.methodLink RX3 65 yX3_takeNumber ∈ TB := tb_2 157 (by decide +kernel) (by decide +kernel)
theorem ml_X3_68 : Cond.methodLink RX3 68 yX3_endLine ∈ TB := tb_2 172 (by decide +kernel) (by decide +kernel)
theorem ml_X3_71 : Cond.methodLink RX3 71 yX3_lineNamed ∈ TB := tb_2 89 (by decide +kernel) (by decide +kernel)
theorem ml_X3_75 : Cond.methodLink RX3 75 yX6_hasAllCows ∈ TB := tb_2 153 (by decide +kernel) (by decide +kernel)
theorem ml_X3_81 : Cond.methodLink RX3 81 yX5_spells ∈ TB := tb_2 94 (by decide +kernel) (by decide +kernel)
theorem ml_X4_1 : Cond.methodLink RX4 1 objectInit ∈ TB := tb_1 212 (by decide +kernel) (by decide +kernel)
theorem ml_X4_20 : Cond.methodLink RX4 20 yX4_isThere ∈ TB := tb_4 20 (by decide +kernel) (by decide +kernel)
theorem ml_X4_24 : Cond.methodLink RX4 24 Lib.Math.min.name ∈ TB := tb_4 32 (by decide +kernel) (by decide +kernel)
theorem ml_X5_1 : Cond.methodLink RX5 1 objectInit ∈ TB := tb_1 79 (by decide +kernel) (by decide +kernel)
theorem ml_X5_23 : Cond.methodLink RX5 23 yX5_kindAt ∈ TB := tb_2 63 (by decide +kernel) (by decide +kernel)
theorem ml_X5_30 : Cond.methodLink RX5 30 yX5_takeNumber ∈ TB := tb_2 71 (by decide +kernel) (by decide +kernel)
theorem ml_X5_36 : Cond.methodLink RX5 36 yX5_byteAt ∈ TB := tb_2 67 (by decide +kernel) (by decide +kernel)
theorem ml_X5_39 : Cond.methodLink RX5 39 yJ0_length_8abf5 ∈ TB := tb_2 98 (by decide +kernel) (by decide +kernel)
theorem ml_X5_44 : Cond.methodLink RX5 44 yJ0_charAt_5068e ∈ TB := tb_2 108 (by decide +kernel) (by decide +kernel)
theorem ml_X6_1 : Cond.methodLink RX6 1 objectInit ∈ TB := tb_1 30 (by decide +kernel) (by decide +kernel)
theorem ml_X6_33 : Cond.methodLink RX6 33 arraycopyName ∈ TB := tb_2 52 (by decide +kernel) (by decide +kernel)
theorem ml_X6_43 : Cond.methodLink RX6 43 yX6_allCows ∈ TB := tb_2 225 (by decide +kernel) (by decide +kernel)
theorem ml_X6_47 : Cond.methodLink RX6 47 yX6_litresOf ∈ TB := tb_2 196 (by decide +kernel) (by decide +kernel)
theorem ml_X7_1 : Cond.methodLink RX7 1 objectInit ∈ TB := tb_1 22 (by decide +kernel) (by decide +kernel)
theorem ml_X7_101 : Cond.methodLink RX7 101 yX6_becomeLike ∈ TB := tb_2 176 (by decide +kernel) (by decide +kernel)
theorem ml_X7_105 : Cond.methodLink RX7 105 yX6_allCows ∈ TB := tb_2 180 (by decide +kernel) (by decide +kernel)
theorem ml_X7_108 : Cond.methodLink RX7 108 yX1_fillWith ∈ TB := tb_2 184 (by decide +kernel) (by decide +kernel)
theorem ml_X7_125 : Cond.methodLink RX7 125 yX6_hasCow ∈ TB := tb_2 209 (by decide +kernel) (by decide +kernel)
theorem ml_X7_135 : Cond.methodLink RX7 135 yX6_hasCows ∈ TB := tb_2 221 (by decide +kernel) (by decide +kernel)
theorem ml_X7_140 : Cond.methodLink RX7 140 yX7_isBadTurn ∈ TB := tb_2 230 (by decide +kernel) (by decide +kernel)
theorem ml_X7_144 : Cond.methodLink RX7 144 yX7_turnChurn ∈ TB := tb_2 233 (by decide +kernel) (by decide +kernel)
theorem ml_X7_148 : Cond.methodLink RX7 148 yX1_halve ∈ TB := tb_3 51 (by decide +kernel) (by decide +kernel)
theorem ml_X7_151 : Cond.methodLink RX7 151 yX1_tell ∈ TB := tb_3 59 (by decide +kernel) (by decide +kernel)
theorem ml_X7_155 : Cond.methodLink RX7 155 yX1_dropsOf ∈ TB := tb_3 79 (by decide +kernel) (by decide +kernel)
theorem ml_X7_159 : Cond.methodLink RX7 159 yX7_isBadRun ∈ TB := tb_3 87 (by decide +kernel) (by decide +kernel)
theorem ml_X7_162 : Cond.methodLink RX7 162 yX1_turnOnce ∈ TB := tb_2 237 (by decide +kernel) (by decide +kernel)
theorem ml_X7_166 : Cond.methodLink RX7 166 yX7_turnTrialTillCome ∈ TB := tb_3 95 (by decide +kernel) (by decide +kernel)
theorem ml_X7_169 : Cond.methodLink RX7 169 yX7_findBest ∈ TB := tb_3 105 (by decide +kernel) (by decide +kernel)
theorem ml_X7_174 : Cond.methodLink RX7 174 yX0_tell ∈ TB := tb_3 118 (by decide +kernel) (by decide +kernel)
theorem ml_X7_176 : Cond.methodLink RX7 176 yJ6_bitCount_0f7a4 ∈ TB := tb_3 126 (by decide +kernel) (by decide +kernel)
theorem ml_X7_181 : Cond.methodLink RX7 181 yX6_hardOf ∈ TB := tb_3 132 (by decide +kernel) (by decide +kernel)
theorem ml_X7_184 : Cond.methodLink RX7 184 yX6_isGood ∈ TB := tb_3 109 (by decide +kernel) (by decide +kernel)
theorem ml_X7_187 : Cond.methodLink RX7 187 yX7_isAsSeen ∈ TB := tb_3 145 (by decide +kernel) (by decide +kernel)
theorem ml_X7_190 : Cond.methodLink RX7 190 yX1_hasCome ∈ TB := tb_3 99 (by decide +kernel) (by decide +kernel)
theorem ml_X7_194 : Cond.methodLink RX7 194 yX7_tryDeed ∈ TB := tb_3 153 (by decide +kernel) (by decide +kernel)
theorem ml_X7_197 : Cond.methodLink RX7 197 yX1_becomeLike ∈ TB := tb_3 157 (by decide +kernel) (by decide +kernel)
theorem ml_X7_200 : Cond.methodLink RX7 200 yX1_isMostlyGreatest ∈ TB := tb_3 168 (by decide +kernel) (by decide +kernel)
theorem ml_X7_203 : Cond.methodLink RX7 203 yX7_isBadWash ∈ TB := tb_3 173 (by decide +kernel) (by decide +kernel)
theorem ml_X7_208 : Cond.methodLink RX7 208 yX7_power ∈ TB := tb_3 177 (by decide +kernel) (by decide +kernel)
theorem ml_X7_212 : Cond.methodLink RX7 212 yX7_lowest ∈ TB := tb_3 180 (by decide +kernel) (by decide +kernel)
theorem ml_X7_216 : Cond.methodLink RX7 216 yX7_isBadShare ∈ TB := tb_3 187 (by decide +kernel) (by decide +kernel)
theorem ml_X7_219 : Cond.methodLink RX7 219 yX7_isBadWater ∈ TB := tb_3 198 (by decide +kernel) (by decide +kernel)
theorem ml_X7_222 : Cond.methodLink RX7 222 yX7_workWater ∈ TB := tb_3 202 (by decide +kernel) (by decide +kernel)
theorem ml_X7_226 : Cond.methodLink RX7 226 yX7_isBadRod ∈ TB := tb_3 214 (by decide +kernel) (by decide +kernel)
theorem ml_X7_229 : Cond.methodLink RX7 229 yX7_chancesAbove ∈ TB := tb_3 217 (by decide +kernel) (by decide +kernel)
theorem ml_X7_233 : Cond.methodLink RX7 233 yX7_imageAt ∈ TB := tb_3 232 (by decide +kernel) (by decide +kernel)
theorem ml_X7_241 : Cond.methodLink RX7 241 yX7_sheetAt ∈ TB := tb_4 4 (by decide +kernel) (by decide +kernel)
theorem ml_X7_245 : Cond.methodLink RX7 245 yX4_renew ∈ TB := tb_4 8 (by decide +kernel) (by decide +kernel)
theorem ml_X7_248 : Cond.methodLink RX7 248 yX4_put ∈ TB := tb_4 16 (by decide +kernel) (by decide +kernel)
theorem ml_X7_250 : Cond.methodLink RX7 250 yX4_pairsWhole ∈ TB := tb_4 28 (by decide +kernel) (by decide +kernel)
theorem ml_X7_254 : Cond.methodLink RX7 254 yX4_cellAt ∈ TB := tb_4 33 (by decide +kernel) (by decide +kernel)
theorem ml_X7_257 : Cond.methodLink RX7 257 yX4_faultAs ∈ TB := tb_4 37 (by decide +kernel) (by decide +kernel)
theorem ml_X7_266 : Cond.methodLink RX7 266 yX7_imagesThere ∈ TB := tb_4 49 (by decide +kernel) (by decide +kernel)
theorem ml_X7_269 : Cond.methodLink RX7 269 yX7_cellsOf ∈ TB := tb_4 53 (by decide +kernel) (by decide +kernel)
theorem ml_X7_274 : Cond.methodLink RX7 274 yX1_hardness ∈ TB := tb_3 100 (by decide +kernel) (by decide +kernel)
theorem ml_X7_278 : Cond.methodLink RX7 278 yX1_left ∈ TB := tb_3 113 (by decide +kernel) (by decide +kernel)
theorem ml_X7_281 : Cond.methodLink RX7 281 yX0_offer ∈ TB := tb_3 114 (by decide +kernel) (by decide +kernel)
theorem ml_X7_285 : Cond.methodLink RX7 285 Lib.Math.min.name ∈ TB := tb_3 162 (by decide +kernel) (by decide +kernel)
theorem ml_X7_290 : Cond.methodLink RX7 290 Lib.Math.max.name ∈ TB := tb_3 163 (by decide +kernel) (by decide +kernel)
theorem ml_X7_293 : Cond.methodLink RX7 293 yX4_isThere ∈ TB := tb_4 56 (by decide +kernel) (by decide +kernel)
theorem ml_X7_64 : Cond.methodLink RX7 64 yX6_base ∈ TB := tb_1 224 (by decide +kernel) (by decide +kernel)
theorem ml_X7_76 : Cond.methodLink RX7 76 yX5_put ∈ TB := tb_2 29 (by decide +kernel) (by decide +kernel)
theorem ml_X7_85 : Cond.methodLink RX7 85 yX7_outside ∈ TB := tb_2 37 (by decide +kernel) (by decide +kernel)
theorem ml_X7_89 : Cond.methodLink RX7 89 yX3_readAll ∈ TB := tb_2 44 (by decide +kernel) (by decide +kernel)
theorem ml_X8_1 : Cond.methodLink RX8 1 objectInit ∈ TB := tb_4 62 (by decide +kernel) (by decide +kernel)
theorem ml_X8_112 : Cond.methodLink RX8 112 yX8_fails ∈ TB := tb_4 197 (by decide +kernel) (by decide +kernel)
theorem ml_X8_116 : Cond.methodLink RX8 116 yX8_step ∈ TB := tb_4 185 (by decide +kernel) (by decide +kernel)
theorem ml_X8_119 : Cond.methodLink RX8 119 yX8_nameHere ∈ TB := tb_4 205 (by decide +kernel) (by decide +kernel)
theorem ml_X8_126 : Cond.methodLink RX8 126 yX8_number ∈ TB := tb_4 209 (by decide +kernel) (by decide +kernel)
theorem ml_X8_133 : Cond.methodLink RX8 133 yX8_readLine ∈ TB := tb_4 201 (by decide +kernel) (by decide +kernel)
theorem ml_X8_145 : Cond.methodLink RX8 145 yX8_fills ∈ TB := tb_4 213 (by decide +kernel) (by decide +kernel)
theorem ml_X8_159 : Cond.methodLink RX8 159 yX8_isCow ∈ TB := tb_4 234 (by decide +kernel) (by decide +kernel)
theorem ml_X8_169 : Cond.methodLink RX8 169 yX8_hardness ∈ TB := tb_5 38 (by decide +kernel) (by decide +kernel)
theorem ml_X8_172 : Cond.methodLink RX8 172 yX8_isSwollen ∈ TB := tb_5 30 (by decide +kernel) (by decide +kernel)
theorem ml_X8_175 : Cond.methodLink RX8 175 yX8_joins ∈ TB := tb_5 34 (by decide +kernel) (by decide +kernel)
theorem ml_X8_179 : Cond.methodLink RX8 179 yX8_fatFrom ∈ TB := tb_5 42 (by decide +kernel) (by decide +kernel)
theorem ml_X8_184 : Cond.methodLink RX8 184 yX8_areCows ∈ TB := tb_5 7 (by decide +kernel) (by decide +kernel)
theorem ml_X8_187 : Cond.methodLink RX8 187 yX8_isWarm ∈ TB := tb_5 11 (by decide +kernel) (by decide +kernel)
theorem ml_X8_190 : Cond.methodLink RX8 190 yX8_awake ∈ TB := tb_5 15 (by decide +kernel) (by decide +kernel)
theorem ml_X8_193 : Cond.methodLink RX8 193 yX8_isPace ∈ TB := tb_5 23 (by decide +kernel) (by decide +kernel)
theorem ml_X8_196 : Cond.methodLink RX8 196 yX8_turns ∈ TB := tb_5 26 (by decide +kernel) (by decide +kernel)
theorem ml_X8_200 : Cond.methodLink RX8 200 yX8_halves ∈ TB := tb_5 54 (by decide +kernel) (by decide +kernel)
theorem ml_X8_203 : Cond.methodLink RX8 203 yX8_isOver ∈ TB := tb_5 74 (by decide +kernel) (by decide +kernel)
theorem ml_X8_206 : Cond.methodLink RX8 206 yX8_left ∈ TB := tb_5 66 (by decide +kernel) (by decide +kernel)
theorem ml_X8_209 : Cond.methodLink RX8 209 yX8_which ∈ TB := tb_5 70 (by decide +kernel) (by decide +kernel)
theorem ml_X8_214 : Cond.methodLink RX8 214 yX8_told ∈ TB := tb_5 62 (by decide +kernel) (by decide +kernel)
theorem ml_X8_217 : Cond.methodLink RX8 217 yX8_tillCome ∈ TB := tb_5 91 (by decide +kernel) (by decide +kernel)
theorem ml_X8_222 : Cond.methodLink RX8 222 yX8_layPlan ∈ TB := tb_5 100 (by decide +kernel) (by decide +kernel)
theorem ml_X8_225 : Cond.methodLink RX8 225 yX8_bitsOf ∈ TB := tb_5 108 (by decide +kernel) (by decide +kernel)
theorem ml_X8_230 : Cond.methodLink RX8 230 yX8_isSo ∈ TB := tb_5 124 (by decide +kernel) (by decide +kernel)
theorem ml_X8_233 : Cond.methodLink RX8 233 yX8_copies ∈ TB := tb_5 132 (by decide +kernel) (by decide +kernel)
theorem ml_X8_238 : Cond.methodLink RX8 238 yX8_isWash ∈ TB := tb_5 144 (by decide +kernel) (by decide +kernel)
theorem ml_X8_243 : Cond.methodLink RX8 243 yX8_power ∈ TB := tb_5 149 (by decide +kernel) (by decide +kernel)
theorem ml_X8_247 : Cond.methodLink RX8 247 yX8_lowest ∈ TB := tb_5 152 (by decide +kernel) (by decide +kernel)
theorem ml_X8_255 : Cond.methodLink RX8 255 yX8_layWet ∈ TB := tb_5 168 (by decide +kernel) (by decide +kernel)
theorem ml_X8_260 : Cond.methodLink RX8 260 yX8_isRod ∈ TB := tb_5 182 (by decide +kernel) (by decide +kernel)
theorem ml_X8_264 : Cond.methodLink RX8 264 yX8_above ∈ TB := tb_5 185 (by decide +kernel) (by decide +kernel)
theorem ml_X8_78 : Cond.methodLink RX8 78 yX8_in ∈ TB := tb_4 178 (by decide +kernel) (by decide +kernel)
theorem ml_X8_97 : Cond.methodLink RX8 97 yX8_byteAt ∈ TB := tb_4 189 (by decide +kernel) (by decide +kernel)
theorem st_min : Cond.static Lib.Math.min.name ∈ TB := tb_3 14 (by decide +kernel) (by decide +kernel)
theorem cd_min : Cond.code Lib.Math.min.name Lib.Math.min.code 2 (some .int) ∈ TB := tb_3 15 rfl (by decide +kernel)
theorem st_max : Cond.static Lib.Math.max.name ∈ TB := tb_3 29 (by decide +kernel) (by decide +kernel)
theorem cd_max : Cond.code Lib.Math.max.name Lib.Math.max.code 2 (some .int) ∈ TB := tb_3 30 rfl (by decide +kernel)
theorem ini_math : Cond.initialized "java/lang/Math" ∈ TB := tb_1 15 (by decide +kernel) (by decide +kernel)
theorem na_copy : Cond.native arraycopyName ∈ TB := tb_2 54 (by decide +kernel) (by decide +kernel)
theorem st_copy : Cond.static arraycopyName ∈ TB := tb_2 53 (by decide +kernel) (by decide +kernel)
theorem ini_sys : Cond.initialized "java/lang/System" ∈ TB := tb_1 10 (by decide +kernel) (by decide +kernel)
theorem kc_J6_265 : Cond.constant RJ6 265 (1431655765) ∈ TB := tb_3 129 (by decide +kernel) (by decide +kernel)
theorem kc_J6_266 : Cond.constant RJ6 266 (858993459) ∈ TB := tb_3 130 (by decide +kernel) (by decide +kernel)
theorem kc_J6_267 : Cond.constant RJ6 267 (252645135) ∈ TB := tb_3 131 (by decide +kernel) (by decide +kernel)
theorem kc_X7_206 : Cond.constantLong RX7 206 (-1) ∈ TB := tb_3 176 (by decide +kernel) (by decide +kernel)
theorem kc_X7_273 : Cond.constant RX7 273 (9999999) ∈ TB := tb_3 201 (by decide +kernel) (by decide +kernel)
theorem kc_X8_104 : Cond.constantLong RX8 104 (97) ∈ TB := tb_4 193 (by decide +kernel) (by decide +kernel)
theorem kc_X8_106 : Cond.constantLong RX8 106 (122) ∈ TB := tb_4 194 (by decide +kernel) (by decide +kernel)
theorem kc_X8_108 : Cond.constantLong RX8 108 (48) ∈ TB := tb_4 195 (by decide +kernel) (by decide +kernel)
theorem kc_X8_110 : Cond.constantLong RX8 110 (57) ∈ TB := tb_4 196 (by decide +kernel) (by decide +kernel)
theorem kc_X8_165 : Cond.constantLong RX8 165 (6) ∈ TB := tb_4 217 (by decide +kernel) (by decide +kernel)
theorem kc_X8_167 : Cond.constantLong RX8 167 (9) ∈ TB := tb_4 218 (by decide +kernel) (by decide +kernel)
theorem kc_X8_153 : Cond.constantLong RX8 153 (8) ∈ TB := tb_4 227 (by decide +kernel) (by decide +kernel)
theorem kc_X8_155 : Cond.constantLong RX8 155 (10) ∈ TB := tb_4 228 (by decide +kernel) (by decide +kernel)
theorem kc_X8_157 : Cond.constantLong RX8 157 (13) ∈ TB := tb_4 229 (by decide +kernel) (by decide +kernel)
theorem kc_X8_163 : Cond.constantLong RX8 163 (100) ∈ TB := tb_5 2 (by decide +kernel) (by decide +kernel)
theorem kc_X8_182 : Cond.constantLong RX8 182 (400) ∈ TB := tb_5 14 (by decide +kernel) (by decide +kernel)
theorem kc_X8_212 : Cond.constantLong RX8 212 (16) ∈ TB := tb_5 78 (by decide +kernel) (by decide +kernel)
theorem kc_X8_220 : Cond.constantLong RX8 220 (3) ∈ TB := tb_5 99 (by decide +kernel) (by decide +kernel)
theorem kc_X8_228 : Cond.constantLong RX8 228 (2) ∈ TB := tb_5 123 (by decide +kernel) (by decide +kernel)
theorem kc_X8_236 : Cond.constantLong RX8 236 (99) ∈ TB := tb_5 147 (by decide +kernel) (by decide +kernel)
theorem kc_X8_241 : Cond.constantLong RX8 241 (5) ∈ TB := tb_5 148 (by decide +kernel) (by decide +kernel)
theorem kc_X8_251 : Cond.constantLong RX8 251 (-1) ∈ TB := tb_5 155 (by decide +kernel) (by decide +kernel)
theorem kc_X8_253 : Cond.constantLong RX8 253 (9999999) ∈ TB := tb_5 172 (by decide +kernel) (by decide +kernel)
theorem kc_X8_258 : Cond.constantLong RX8 258 (30) ∈ TB := tb_5 181 (by decide +kernel) (by decide +kernel)
theorem kc_X8_268 : Cond.constantLong RX8 268 (12) ∈ TB := tb_5 196 (by decide +kernel) (by decide +kernel)
theorem kc_X8_270 : Cond.constantLong RX8 270 (20) ∈ TB := tb_5 217 (by decide +kernel) (by decide +kernel)
theorem kc_L_13 : Cond.constantLong RL 13 (4294967295) ∈ TB := tb_5 226 (by decide +kernel) (by decide +kernel)
end
section
theorem tI_1_0 {k : Nat} (h : isO 1 k) : isI (k + 1) 7 := by rcases kk_1 h with rfl | rfl | rfl | rfl <;> decide
theorem tO_2_0 {k : Nat} (h : isO 2 k) : isO 1 (k + 1) := by rcases kk_2 h with rfl | rfl <;> decide
theorem tI_4_0 {k : Nat} (h : isO 4 k) : isI (k + 1) 40 := by rcases kk_4 h with rfl | rfl | rfl | rfl <;> decide
theorem tI_6_0 {k : Nat} (h : isO 6 k) : isI (k + 1) 9 := by rcases kk_6 h with rfl | rfl <;> decide
theorem tI_6_1 {k : Nat} (h : isO 6 k) : isI (k + 2) 4 := by rcases kk_6 h with rfl | rfl <;> decide
theorem tI_6_2 {k : Nat} (h : isO 6 k) : isI (k + 3) 8 := by rcases kk_6 h with rfl | rfl <;> decide
theorem tI_6_3 {k : Nat} (h : isO 6 k) : isI (k + 4) 8 := by rcases kk_6 h with rfl | rfl <;> decide
def b2i (b : Bool) : Int32 := if b then 1 else 0
/-- a contract out of its body, a class of the JDK's -/
theorem call_ofF {l : Launch} {g : XG} {y : XM} {As : List Value} {M : Mem} {P : Option Value → Mem → Prop} (hy : plainFor (xmN y) = true) (hn : (lg_sl As).length ≤ xmL y)
    (h : ∀ x : XC, x_l x = l → XF x g y → XR x g y P → EX x g (xmL y) M 0 (lv_args 0 As) []) : Call l g y As M P := by
  intro sz
  refine va_MetF (cc := xmB y) (maxL := xmL y) (ret := xmR y) (ws' := TB) hy rfl ?_
  intro p e s m args below meth c s₁ B hml hv
  obtain ⟨rfl, hsz, hP, hK, hD0, hC⟩ := hv
  subst hsz
  have hts := atoms_spec (ws := xws y) B.pre
  have hown : s.vm.findClass (xmN y).cls = some m.cls := findClass_of_methodNamed B.named
  have hl := lv_entry As (n := xmL y) hn
  rw [lg_entry_eq]
  refine h (p, l, e, xrm y, s, m, As.toArray, below, meth, c, 0, 0, MQ below (xQc g s.heap.size P) As.toArray s 0 0 (XA g s.heap.size), XA g s.heap.size) rfl
    ⟨B.exec, B.bytes, hml, hown, fun w hw => hts w (List.mem_cons_of_mem _ hw), hK, hC, fun q hq => Or.inr hq, Nat.le_refl _, Nat.le_refl _, Nat.zero_le _, Nat.zero_le _⟩
    ⟨rfl, rfl, rfl, rfl, B.returns, B.notSynchronized⟩ s.heap [] _ hP (xa_D hD0) va_S.rf hl
theorem b2i_0 {b : Bool} : b2i b = 0 ↔ b = false := by cases b <;> decide
theorem b2i_1 {b : Bool} : ¬ b2i b = 0 ↔ b = true := by cases b <;> decide
theorem b2i_z (b : Bool) : b2i b = 0 ∨ b2i b = 1 := by cases b <;> decide
theorem ex_weak2 {x : XC} {g : XG} {nL : Nat} {M : Mem} {pc : Nat} {L L1 : List (Nat × Value)} {S : List Value} (k : EX x g nL M pc L1 S) (h : lall L L1) : EX x g nL M pc L S := fun H locs ls hP hD hS hl => k H locs ls hP hD hS (lall_sub hl L1 h)
theorem lt_nle {a b : Int32} : a < b ↔ ¬ b ≤ a := Int32.not_le.symm
theorem narrow_b2i (b : Bool) : narrow .boolean (.int (b2i b)) = .int (b2i b) := by cases b <;> rfl
theorem vin {v b : Int32} {n : Nat} (hb : b.toInt = n) (h1 : ¬ v < 0) (h2 : ¬ b ≤ v) : vp_in v n := by
  refine vp_in_iff.mpr ⟨?_, ?_⟩
  · have := Int32.le_iff_toInt_le.mp (Int32.not_lt.mp h1)
    simpa using this
  · have := Int32.lt_iff_toInt_lt.mp (Int32.not_le.mp h2)
    omega
theorem nI_ltof {i b : Nat} (hi : i < 2 ^ 31) (h : ¬ nI b ≤ nI i) : i < b := by
  rcases Nat.lt_or_ge i b with q | q
  · exact q
  · exact absurd (nI_le q hi) h
theorem nI_self {v : Int32} (h : ¬ v < 0) : v = nI v.toNatClampNeg := by
  obtain ⟨j, hj, rfl⟩ := nI_of h
  rw [nI_clamp hj]
theorem nI_tcn_lt (v : Int32) : v.toNatClampNeg < 2 ^ 31 := by
  have h : v.toNatClampNeg = v.toInt.toNat := rfl
  have := v.toInt_lt
  omega
theorem s_l31 : ∀ l, l < 32 → ((nI l &&& 31).toBitVec.smod 32).toNat = l := by decide +kernel
theorem tsw_out {v : Int32} (n : Nat) (hn : n < 2 ^ 31) (h : ∀ k, k ≤ n → ¬ v = nI k) : v.toInt < 0 ∨ (n : Int) < v.toInt := by
  by_cases h0 : v.toInt < 0
  · exact Or.inl h0
  · refine Or.inr ?_
    by_cases h1 : (n : Int) < v.toInt
    · exact h1
    · exfalso
      refine h v.toInt.toNat (by omega) (Int32.toInt_inj.mp ?_)
      rw [nI_toInt (by omega)]
      omega
theorem b2i_t : b2i true = 1 := rfl
theorem b2i_f : b2i false = 0 := rfl
theorem mu_same (M : Mem) (k j : Nat) (y : Int32) : mu M k j y k j = y := by simp [mu, upd]
theorem mu_j (M : Mem) (k j i : Nat) (y : Int32) (h : i ≠ j) : mu M k j y k i = M k i := by simp [mu, upd, h]
theorem mu_k (M : Mem) (k j q : Nat) (y : Int32) (h : q ≠ k) : mu M k j y q = M q := by simp [mu, h]
-- a churn as a row: 0 litres, 1 warmth, 2 hard, 3 air, 4 turns, 5 come (-4: not), 6 on: drops
def cX (M : Mem) (k : Nat) : Nat → Int32 := fun j => if j < 6 then M k (j + 1) else M (k + 1) (j - 6)
def putC (M : Mem) (k : Nat) (c : Nat → Int32) : Mem := fun q => if q = k then (fun j => if j = 0 then M k 0 else if j < 7 then c (j - 1) else M k j) else if q = k + 1 then (fun j => c (j + 6)) else M q
theorem cX_putC (M : Mem) (k : Nat) (c : Nat → Int32) : cX (putC M k c) k = c := by
  funext j
  by_cases h : j < 6
  · simp [cX, putC, h, show j + 1 < 7 by omega]
  · simp [cX, putC, h, show j - 6 + 6 = j by omega]
theorem putC_putC (M : Mem) (k : Nat) (a b : Nat → Int32) : putC (putC M k a) k b = putC M k b := by
  funext q j
  by_cases h : q = k
  · subst h
    simp only [putC, if_true]
    by_cases h0 : j = 0
    · simp [h0]
    · by_cases h1 : j < 7 <;> simp [h0, h1]
  · by_cases h1 : q = k + 1 <;> simp [putC, h, h1]
theorem putC_cX (M : Mem) (k : Nat) : putC M k (cX M k) = M := by
  funext q j
  by_cases h : q = k
  · subst h
    simp only [putC, if_true]
    by_cases h0 : j = 0
    · simp [h0]
    · by_cases h1 : j < 7
      · simp [h0, h1, cX, show j - 1 < 6 by omega, show j - 1 + 1 = j by omega]
      · simp [h0, h1]
  · by_cases h1 : q = k + 1
    · subst h1; simp [putC, cX, show ¬ j + 6 < 6 by omega]
    · simp [putC, h, h1]
theorem mu_c {M : Mem} {k j : Nat} (y : Int32) (h0 : 0 < j) (h : j < 7) : mu M k j y = putC M k (upd (cX M k) (j - 1) y) := by
  funext q i
  by_cases hq : q = k
  · subst hq
    simp only [mu, putC, upd, if_true]
    by_cases hi : i = j
    · subst hi; simp [show ¬ i = 0 by omega, h]
    · by_cases h1 : i = 0
      · subst h1; simp [hi]
      · by_cases h2 : i < 7
        · simp [hi, h1, h2, show ¬ i - 1 = j - 1 by omega, cX, show i - 1 < 6 by omega, show i - 1 + 1 = i by omega]
        · simp [hi, h1, h2]
  · by_cases h1 : q = k + 1
    · subst h1; simp [mu, putC, upd, cX, show ¬ i + 6 = j - 1 by omega, show ¬ i + 6 < 6 by omega]
    · simp [mu, putC, hq, h1]
theorem mu_c1 (M : Mem) (k : Nat) (y : Int32) : mu M k 1 y = putC M k (upd (cX M k) 0 y) := mu_c y (by decide) (by decide)
theorem mu_c2 (M : Mem) (k : Nat) (y : Int32) : mu M k 2 y = putC M k (upd (cX M k) 1 y) := mu_c y (by decide) (by decide)
theorem mu_c3 (M : Mem) (k : Nat) (y : Int32) : mu M k 3 y = putC M k (upd (cX M k) 2 y) := mu_c y (by decide) (by decide)
theorem mu_c4 (M : Mem) (k : Nat) (y : Int32) : mu M k 4 y = putC M k (upd (cX M k) 3 y) := mu_c y (by decide) (by decide)
theorem mu_c5 (M : Mem) (k : Nat) (y : Int32) : mu M k 5 y = putC M k (upd (cX M k) 4 y) := mu_c y (by decide) (by decide)
theorem mu_c6 (M : Mem) (k : Nat) (y : Int32) : mu M k 6 y = putC M k (upd (cX M k) 5 y) := mu_c y (by decide) (by decide)
theorem mu_cd (M : Mem) (k j : Nat) (y : Int32) : mu M (k + 1) j y = putC M k (upd (cX M k) (j + 6) y) := by
  funext q i
  by_cases hq : q = k
  · subst hq
    simp only [mu, putC, show ¬ q = q + 1 by omega, if_true, if_false]
    by_cases h1 : i = 0
    · subst h1; simp
    · by_cases h2 : i < 7
      · simp [h1, h2, upd, cX, show ¬ i - 1 = j + 6 by omega, show i - 1 < 6 by omega, show i - 1 + 1 = i by omega]
      · simp [h1, h2]
  · by_cases h1 : q = k + 1
    · subst h1
      by_cases h2 : i = j
      · subst h2; simp [mu, putC, upd]
      · simp [mu, putC, upd, cX, h2, show ¬ i + 6 < 6 by omega]
    · simp [mu, putC, hq, h1]
theorem rd_1 (M : Mem) (k : Nat) (c : Nat → Int32) : putC M k c k 1 = c 0 := by simp [putC]
theorem rd_2 (M : Mem) (k : Nat) (c : Nat → Int32) : putC M k c k 2 = c 1 := by simp [putC]
theorem rd_3 (M : Mem) (k : Nat) (c : Nat → Int32) : putC M k c k 3 = c 2 := by simp [putC]
theorem rd_4 (M : Mem) (k : Nat) (c : Nat → Int32) : putC M k c k 4 = c 3 := by simp [putC]
theorem rd_5 (M : Mem) (k : Nat) (c : Nat → Int32) : putC M k c k 5 = c 4 := by simp [putC]
theorem rd_6 (M : Mem) (k : Nat) (c : Nat → Int32) : putC M k c k 6 = c 5 := by simp [putC]
theorem rd_d (M : Mem) (k j : Nat) (c : Nat → Int32) : putC M k c (k + 1) j = c (j + 6) := by simp [putC]
theorem rd_o {M : Mem} {k q : Nat} {c : Nat → Int32} (h : q ≠ k) (h1 : q ≠ k + 1) : putC M k c q = M q := by simp [putC, h, h1]
theorem rd_lo {M : Mem} {k : Nat} {c : Nat → Int32} (hk : isO 1 k) (q : Nat) (h : q < 14) : putC M k c q = M q := by
  refine rd_o ?_ ?_ <;> rcases kk_1 hk with rfl | rfl | rfl | rfl <;> omega
def okR (r : Nat → Int32) : Prop := ∃ f : Nat → Nat, (∀ j, j < 9 → r j = nI (f j)) ∧ (10 ≤ f 0 ∧ f 0 ≤ 400) ∧ f 1 ≤ 400 ∧ (1 ≤ f 2 ∧ f 2 ≤ 99) ∧ f 3 ≤ 50 ∧ f 4 ≤ 99 ∧ (3 ≤ f 5 ∧ f 5 ≤ 6) ∧ (1 ≤ f 6 ∧ f 6 ≤ 99) ∧ f 7 ≤ 100 ∧ f 8 ≤ 100 ∧ f 7 ≤ f 8
theorem okR_grain {r : Nat → Int32} (h : okR r) : ∃ n, r 5 = nI n ∧ 3 ≤ n ∧ n ≤ 6 := by
  obtain ⟨f, h1, h2⟩ := h
  exact ⟨f 5, h1 5 (by decide), h2.2.2.2.2.2.1.1, h2.2.2.2.2.2.1.2⟩
theorem nI_lit7 : nI 7 = 7 := rfl
end
section
-- spec of a churn: the row c (cX), the rules r; all as ints
def fdv (a b : Int32) : Int32 := if 0 ≤ a ^^^ b then a / b else if a / b * b = a then a / b else a / b - 1
def sHard (r c : Nat → Int32) : Int32 := if 0 < (if c 2 - fdv ((c 1 - r 1) * r 2) 100 < 100 then c 2 - fdv ((c 1 - r 1) * r 2) 100 else 100) then (if c 2 - fdv ((c 1 - r 1) * r 2) 100 < 100 then c 2 - fdv ((c 1 - r 1) * r 2) 100 else 100) else 0
def sCome (c : Nat → Int32) : Bool := !decide (c 5 = -4)
def sSwell (r c : Nat → Int32) : Bool := !sCome c && decide (r 0 ≤ c 0 + c 3 * r 4 / 100)
def sAir (r : Nat → Int32) (p : Int32) (c : Nat → Int32) : Nat → Int32 := if sCome c = true then c else upd c 3 (if c 3 + r 3 * p < 1000 then c 3 + r 3 * p else 1000)
def sRate (r : Nat → Int32) (p : Int32) (c : Nat → Int32) : Int32 := if sCome c = true then (if 20 * p < 100 then 20 * p else 100) else (if sHard r c * (100 - sHard r c) * c 3 / 25000 < 100 then sHard r c * (100 - sHard r c) * c 3 / 25000 else 100)
def sJ (rate : Int32) (k : Nat) (c : Nat → Int32) : Nat → Int32 := upd (upd c (k + 6) (c (k + 6) - 2 * (rate * c (k + 6) / 200))) (k + 1 + 6) (c (k + 1 + 6) + rate * c (k + 6) / 200)
def sJn (rate : Int32) : Nat → (Nat → Int32) → Nat → Int32
  | 0, c => c
  | n + 1, c => sJn rate n (sJ rate n c)
def sFatN (c : Nat → Int32) : Nat → Int32 → Int32
  | 0, a => a
  | n + 1, a => sFatN c n (a + c (6 - n + 6) <<< (nI (6 - n) &&& 31))
def sFat (c : Nat → Int32) (i : Nat) : Int32 := sFatN c (7 - i) 0
def sGrain (r : Nat → Int32) : Nat := (r 5).toNatClampNeg
def sDue (r c : Nat → Int32) : Bool := decide (0 < sFat c 0) && decide (sFat c 0 ≤ 2 * sFat c (sGrain r))
def sBreak (r c : Nat → Int32) : Nat → Int32 := if sCome c = true then c else if sDue r c = true then upd (upd c 5 (c 4)) 3 0 else c
def sTurn1 (r : Nat → Int32) (p : Int32) (c : Nat → Int32) : Nat → Int32 := if sSwell r c = true then c else sBreak r (sJn (sRate r p (sAir r p c)) 6 (sAir r p c))
def sTick (r : Nat → Int32) (p : Int32) (c : Nat → Int32) : Nat → Int32 := if c 4 + 1 - (c 4 + 1) / r 6 * r 6 = 0 then upd (upd c 4 (c 4 + 1)) 1 (if c 1 + p < 400 then c 1 + p else 400) else upd c 4 (c 4 + 1)
def sTurn (r : Nat → Int32) (p : Int32) (c : Nat → Int32) : Nat → Int32 := sTick r p (sTurn1 r p c)
def sLeft (r c : Nat → Int32) : Int32 := sFat c 0 - sFat c (sGrain r)
def sMost (c : Nat → Int32) : Bool := decide (9 * sFat c 0 ≤ 10 * sFat c 6)
def sOut (r c : Nat → Int32) : Int32 := if sSwell r c = true then 2 else if sCome c = true then (if sHard r c < r 7 then 3 else if sMost c = true then 5 else if sFat c 0 < 10 * sLeft r c then 4 else 1) else 0
def sTell (r c : Nat → Int32) (w : Int32) : Int32 := if w = 0 then c 0 else if w = 1 then c 1 else if w = 2 then sHard r c else if w = 3 then c 3 else if w = 4 then c 4 else if w = 5 then c 5 else if w = 6 then sLeft r c else if w = 7 then sFat c 0 else if w = 8 then b2i (sSwell r c) else if w = 9 then sOut r c else -1

set_option maxRecDepth 100000 in
theorem c_J9_floorDiv_7cf53 {l : Launch} {g : XG} {M : Mem} {a b : Int32} (hb : ¬ b = 0) : Call l g YJ9_floorDiv_7cf53 [.int a, .int b] M (PI (fun v M' => v = fdv a b ∧ M' = M)) := by
  refine call_ofF (by decide +kernel) (Nat.le_of_ble_eq_true rfl) (fun x hxl F R => ?_)
  subst hxl
  refine ex_iload_n F dJ9_floorDiv_7cf53_0 rfl rfl ?_
  refine ex_iload_n F dJ9_floorDiv_7cf53_1 rfl rfl ?_
  refine ex_idiv F dJ9_floorDiv_7cf53_2 hb ?_
  refine ex_istore_n F dJ9_floorDiv_7cf53_3 rfl (by decide) ?_
  refine ex_iload_n F dJ9_floorDiv_7cf53_4 rfl rfl ?_
  refine ex_iload_n F dJ9_floorDiv_7cf53_5 rfl rfl ?_
  refine ex_ixor F dJ9_floorDiv_7cf53_6 ?_
  refine ex_if_ge (t := 21) F dJ9_floorDiv_7cf53_7 (by decide) (fun c7 => ?_) (fun c7 => ?_)
  · refine ex_iload_n F dJ9_floorDiv_7cf53_21 rfl rfl ?_
    exact ex_iret F R dJ9_floorDiv_7cf53_22 rfl (⟨by first | rw [fdv, if_pos c7] | rw [fdv, if_neg c7, if_pos c14], rfl⟩)
  · refine ex_iload_n F dJ9_floorDiv_7cf53_10 rfl rfl ?_
    refine ex_iload_n F dJ9_floorDiv_7cf53_11 rfl rfl ?_
    refine ex_imul F dJ9_floorDiv_7cf53_12 ?_
    refine ex_iload_n F dJ9_floorDiv_7cf53_13 rfl rfl ?_
    refine ex_icmp_eq (t := 21) F dJ9_floorDiv_7cf53_14 (by decide) (fun c14 => ?_) (fun c14 => ?_)
    · refine ex_iload_n F dJ9_floorDiv_7cf53_21 rfl rfl ?_
      exact ex_iret F R dJ9_floorDiv_7cf53_22 rfl (⟨by first | rw [fdv, if_pos c7] | rw [fdv, if_neg c7, if_pos c14], rfl⟩)
    · refine ex_iload_n F dJ9_floorDiv_7cf53_17 rfl rfl ?_
      refine ex_iconst (v := 1) F dJ9_floorDiv_7cf53_18 (by decide) ?_
      refine ex_isub F dJ9_floorDiv_7cf53_19 ?_
      exact ex_iret F R dJ9_floorDiv_7cf53_20 rfl (⟨by rw [fdv, if_neg c7, if_neg c14], rfl⟩)
set_option maxRecDepth 100000 in
theorem c_X6_base {l : Launch} {g : XG} {M : Mem}  : Call l g YX6_base [.ref (ad g 1)] M (PI (fun v M' => v = M 2 1 ∧ M' = M)) := by
  refine call_of (by decide +kernel) (Nat.le_of_ble_eq_true rfl) (fun x hxl F R => ?_)
  subst hxl
  refine ex_aload_n F dX6_base_0 rfl rfl ?_
  refine gf_6_0 (by decide) (q9 := 2) rfl F dX6_base_1 fl_X6_18 ?_
  refine ex_iconst (v := 1) F dX6_base_4 (by decide) ?_
  refine ex_iald (n := 9) F dX6_base_5 (by decide) (vpd (by decide)) (j := 1) (by decide) ?_
  exact ex_iret F R dX6_base_6 rfl (⟨rfl, rfl⟩)
set_option maxRecDepth 100000 in
theorem c_X1_hasCome {l : Launch} {g : XG} {M : Mem} {k : Nat} (hk : isO 1 k) : Call l g YX1_hasCome [.ref (ad g k)] M (PI (fun v M' => v = b2i (sCome (cX M k)) ∧ M' = M)) := by
  refine call_of (by decide +kernel) (Nat.le_of_ble_eq_true rfl) (fun x hxl F R => ?_)
  subst hxl
  refine ex_aload_n F dX1_hasCome_0 rfl rfl ?_
  refine gf_1_6 hk F dX1_hasCome_1 fl_X1_15 ?_
  refine ex_bipush (v := -4) F dX1_hasCome_4 (by decide) ?_
  refine ex_icmp_eq (t := 13) F dX1_hasCome_6 (by decide) (fun c6 => ?_) (fun c6 => ?_)
  · refine ex_iconst (v := 0) F dX1_hasCome_13 (by decide) ?_
    exact ex_zret (ty := .boolean) F R dX1_hasCome_14 rfl (rfl) (⟨by first | (rw [show sCome (cX M k) = true from by simpa [sCome, cX] using c6]; rfl) | (rw [show sCome (cX M k) = false from by simpa [sCome, cX] using c6]; rfl), rfl⟩)
  · refine ex_iconst (v := 1) F dX1_hasCome_9 (by decide) ?_
    refine ex_goto (t := 14) F dX1_hasCome_10 (by decide) ?_
    exact ex_zret (ty := .boolean) F R dX1_hasCome_14 rfl (rfl) (⟨by first | (rw [show sCome (cX M k) = true from by simpa [sCome, cX] using c6]; rfl) | (rw [show sCome (cX M k) = false from by simpa [sCome, cX] using c6]; rfl), rfl⟩)
theorem cs_X1_hardness_59 : CSV (xmN YX1_hardness).cls (xmF YX1_hardness) (xmW YX1_hardness) 59 0 YX6_base := ⟨⟨ml_X1_59, ini_X6, cd_X6_base, by decide +kernel, by decide⟩, im_X6_base, se_X6_base⟩
theorem cs_X1_hardness_63 : CSS (xmN YX1_hardness).cls (xmF YX1_hardness) (xmW YX1_hardness) 63 2 YJ9_floorDiv_7cf53 := ⟨⟨ml_X1_63, ini_J9, cd_J9_floorDiv_7cf53, by decide +kernel, by decide⟩, st_J9_floorDiv_7cf53⟩
set_option maxRecDepth 100000 in
theorem c_X1_hardness {l : Launch} {g : XG} {M : Mem} {k : Nat} (hk : isO 1 k) : Call l g YX1_hardness [.ref (ad g k), .ref (ad g 1)] M (PI (fun v M' => v = sHard (M 2) (cX M k) ∧ M' = M)) := by
  refine call_of (by decide +kernel) (Nat.le_of_ble_eq_true rfl) (fun x hxl F R => ?_)
  subst hxl
  refine ex_aload_n F dX1_hardness_0 rfl rfl ?_
  refine gf_1_2 hk F dX1_hardness_1 fl_X1_34 ?_
  refine ex_aload_n F dX1_hardness_4 rfl rfl ?_
  refine ex_callVi F (c_X6_base) dX1_hardness_5 cs_X1_hardness_59 (ob_6 (by decide)) rfl rfl rfl rfl (Nat.le_of_ble_eq_true rfl) (fun v5 M5 h5 => ?_)
  obtain ⟨rfl, q5⟩ := h5
  rw [q5]
  clear q5
  refine ex_isub F dX1_hardness_8 ?_
  refine ex_aload_n F dX1_hardness_9 rfl rfl ?_
  refine gf_6_0 (by decide) (q9 := 2) rfl F dX1_hardness_10 fl_X1_52 ?_
  refine ex_iconst (v := 2) F dX1_hardness_13 (by decide) ?_
  refine ex_iald (n := 9) F dX1_hardness_14 (by decide) (vpd (by decide)) (j := 2) (by decide) ?_
  refine ex_imul F dX1_hardness_15 ?_
  refine ex_bipush (v := 100) F dX1_hardness_16 (by decide) ?_
  refine ex_callSi F (c_J9_floorDiv_7cf53 (by decide)) dX1_hardness_18 cs_X1_hardness_63 rfl rfl (Nat.le_of_ble_eq_true rfl) (fun v18 M18 h18 => ?_)
  obtain ⟨rfl, q18⟩ := h18
  rw [q18]
  clear q18
  refine ex_istore_n F dX1_hardness_21 rfl (by decide) ?_
  refine ex_iconst (v := 0) F dX1_hardness_22 (by decide) ?_
  refine ex_bipush (v := 100) F dX1_hardness_23 (by decide) ?_
  refine ex_aload_n F dX1_hardness_25 rfl rfl ?_
  refine gf_1_3 hk F dX1_hardness_26 fl_X1_31 ?_
  refine ex_iload_n F dX1_hardness_29 rfl rfl ?_
  refine ex_isub F dX1_hardness_30 ?_
  refine ex_mmin F dX1_hardness_31 ml_X1_69 st_min ini_math cd_min (by decide) (Nat.le_of_ble_eq_true rfl) ?_
  refine ex_mmax F dX1_hardness_34 ml_X1_72 st_max ini_math cd_max (by decide) (Nat.le_of_ble_eq_true rfl) ?_
  exact ex_iret F R dX1_hardness_37 rfl (⟨rfl, rfl⟩)
theorem cs_X1_isSwollen_55 : CSV (xmN YX1_isSwollen).cls (xmF YX1_isSwollen) (xmW YX1_isSwollen) 55 0 YX1_hasCome := ⟨⟨ml_X1_55, ini_X1, cd_X1_hasCome, by decide +kernel, by decide⟩, im_X1_hasCome, se_X1_hasCome⟩
set_option maxRecDepth 100000 in
theorem c_X1_isSwollen {l : Launch} {g : XG} {M : Mem} {k : Nat} (hk : isO 1 k) : Call l g YX1_isSwollen [.ref (ad g k), .ref (ad g 1)] M (PI (fun v M' => v = b2i (sSwell (M 2) (cX M k)) ∧ M' = M)) := by
  refine call_of (by decide +kernel) (Nat.le_of_ble_eq_true rfl) (fun x hxl F R => ?_)
  subst hxl
  refine ex_aload_n F dX1_isSwollen_0 rfl rfl ?_
  refine gf_1_4 hk F dX1_isSwollen_1 fl_X1_37 ?_
  refine ex_aload_n F dX1_isSwollen_4 rfl rfl ?_
  refine gf_6_0 (by decide) (q9 := 2) rfl F dX1_isSwollen_5 fl_X1_52 ?_
  refine ex_iconst (v := 4) F dX1_isSwollen_8 (by decide) ?_
  refine ex_iald (n := 9) F dX1_isSwollen_9 (by decide) (vpd (by decide)) (j := 4) (by decide) ?_
  refine ex_imul F dX1_isSwollen_10 ?_
  refine ex_bipush (v := 100) F dX1_isSwollen_11 (by decide) ?_
  refine ex_idiv F dX1_isSwollen_13 (by decide) ?_
  refine ex_istore_n F dX1_isSwollen_14 rfl (by decide) ?_
  refine ex_aload_n F dX1_isSwollen_15 rfl rfl ?_
  refine ex_callVi F (c_X1_hasCome hk) dX1_isSwollen_16 cs_X1_isSwollen_55 (ob_1 hk) rfl rfl rfl rfl (Nat.le_of_ble_eq_true rfl) (fun v16 M16 h16 => ?_)
  obtain ⟨rfl, q16⟩ := h16
  rw [q16]
  clear q16
  refine ex_if_ne (t := 41) F dX1_isSwollen_19 (by decide) (fun c19 => ?_) (fun c19 => ?_)
  · refine ex_iconst (v := 0) F dX1_isSwollen_41 (by decide) ?_
    exact ex_zret (ty := .boolean) F R dX1_isSwollen_42 rfl (rfl) (⟨by simp_all [b2i_0, b2i_1, b2i, cX, sSwell], rfl⟩)
  · refine ex_aload_n F dX1_isSwollen_22 rfl rfl ?_
    refine gf_1_1 hk F dX1_isSwollen_23 fl_X1_25 ?_
    refine ex_iload_n F dX1_isSwollen_26 rfl rfl ?_
    refine ex_iadd F dX1_isSwollen_27 ?_
    refine ex_aload_n F dX1_isSwollen_28 rfl rfl ?_
    refine gf_6_0 (by decide) (q9 := 2) rfl F dX1_isSwollen_29 fl_X1_52 ?_
    refine ex_iconst (v := 0) F dX1_isSwollen_32 (by decide) ?_
    refine ex_iald (n := 9) F dX1_isSwollen_33 (by decide) (vpd (by decide)) (j := 0) (by decide) ?_
    refine ex_icmp_lt (t := 41) F dX1_isSwollen_34 (by decide) (fun c34 => ?_) (fun c34 => ?_)
    · refine ex_iconst (v := 0) F dX1_isSwollen_41 (by decide) ?_
      exact ex_zret (ty := .boolean) F R dX1_isSwollen_42 rfl (rfl) (⟨by simp_all [b2i_0, b2i_1, b2i, cX, sSwell], rfl⟩)
    · refine ex_iconst (v := 1) F dX1_isSwollen_37 (by decide) ?_
      refine ex_goto (t := 42) F dX1_isSwollen_38 (by decide) ?_
      exact ex_zret (ty := .boolean) F R dX1_isSwollen_42 rfl (rfl) (⟨by simp_all [b2i_0, b2i_1, b2i, cX, sSwell], rfl⟩)
theorem cs_X1_beatIn_55 : CSV (xmN YX1_beatIn).cls (xmF YX1_beatIn) (xmW YX1_beatIn) 55 0 YX1_hasCome := ⟨⟨ml_X1_55, ini_X1, cd_X1_hasCome, by decide +kernel, by decide⟩, im_X1_hasCome, se_X1_hasCome⟩
set_option maxRecDepth 100000 in
theorem c_X1_beatIn {l : Launch} {g : XG} {M : Mem} {k : Nat} (hk : isO 1 k) {p : Int32} : Call l g YX1_beatIn [.ref (ad g k), .ref (ad g 1), .int p] M (PV (fun M' => M' = putC M k (sAir (M 2) p (cX M k)))) := by
  refine call_of (by decide +kernel) (Nat.le_of_ble_eq_true rfl) (fun x hxl F R => ?_)
  subst hxl
  refine ex_aload_n F dX1_beatIn_0 rfl rfl ?_
  refine ex_callVi F (c_X1_hasCome hk) dX1_beatIn_1 cs_X1_beatIn_55 (ob_1 hk) rfl rfl rfl rfl (Nat.le_of_ble_eq_true rfl) (fun v1 M1 h1 => ?_)
  obtain ⟨rfl, q1⟩ := h1
  rw [q1]
  clear q1
  refine ex_if_ne (t := 30) F dX1_beatIn_4 (by decide) (fun c4 => ?_) (fun c4 => ?_)
  · exact ex_vret F R dX1_beatIn_30 rfl (by first | (simp_all [b2i_0, b2i_1, sAir, mu_c1, mu_c2, mu_c3, mu_c4, mu_c5, mu_c6, mu_cd, putC_putC, cX_putC, putC_cX, rd_1, rd_2, rd_3, rd_4, rd_5, rd_6, rd_d]; done) | (simp_all [b2i_0, b2i_1, sAir, mu_c1, mu_c2, mu_c3, mu_c4, mu_c5, mu_c6, mu_cd, putC_putC, cX_putC, putC_cX, rd_1, rd_2, rd_3, rd_4, rd_5, rd_6, rd_d, cX]; done))
  · refine ex_aload_n F dX1_beatIn_7 rfl rfl ?_
    refine ex_sipush (v := 1000) F dX1_beatIn_8 (by decide) ?_
    refine ex_aload_n F dX1_beatIn_11 rfl rfl ?_
    refine gf_1_4 hk F dX1_beatIn_12 fl_X1_37 ?_
    refine ex_aload_n F dX1_beatIn_15 rfl rfl ?_
    refine gf_6_0 (by decide) (q9 := 2) rfl F dX1_beatIn_16 fl_X1_52 ?_
    refine ex_iconst (v := 3) F dX1_beatIn_19 (by decide) ?_
    refine ex_iald (n := 9) F dX1_beatIn_20 (by decide) (vpd (by decide)) (j := 3) (by decide) ?_
    refine ex_iload_n F dX1_beatIn_21 rfl rfl ?_
    refine ex_imul F dX1_beatIn_22 ?_
    refine ex_iadd F dX1_beatIn_23 ?_
    refine ex_mmin F dX1_beatIn_24 ml_X1_69 st_min ini_math cd_min (by decide) (Nat.le_of_ble_eq_true rfl) ?_
    refine pf_1_4 hk F dX1_beatIn_27 fl_X1_37 ?_
    exact ex_vret F R dX1_beatIn_30 rfl (by first | (simp_all [b2i_0, b2i_1, sAir, mu_c1, mu_c2, mu_c3, mu_c4, mu_c5, mu_c6, mu_cd, putC_putC, cX_putC, putC_cX, rd_1, rd_2, rd_3, rd_4, rd_5, rd_6, rd_d]; done) | (simp_all [b2i_0, b2i_1, sAir, mu_c1, mu_c2, mu_c3, mu_c4, mu_c5, mu_c6, mu_cd, putC_putC, cX_putC, putC_cX, rd_1, rd_2, rd_3, rd_4, rd_5, rd_6, rd_d, cX]; done))
theorem cs_X1_rate_55 : CSV (xmN YX1_rate).cls (xmF YX1_rate) (xmW YX1_rate) 55 0 YX1_hasCome := ⟨⟨ml_X1_55, ini_X1, cd_X1_hasCome, by decide +kernel, by decide⟩, im_X1_hasCome, se_X1_hasCome⟩
theorem cs_X1_rate_95 : CSV (xmN YX1_rate).cls (xmF YX1_rate) (xmW YX1_rate) 95 1 YX1_hardness := ⟨⟨ml_X1_95, ini_X1, cd_X1_hardness, by decide +kernel, by decide⟩, im_X1_hardness, se_X1_hardness⟩
set_option maxRecDepth 100000 in
theorem c_X1_rate {l : Launch} {g : XG} {M : Mem} {k : Nat} (hk : isO 1 k) {p : Int32} : Call l g YX1_rate [.ref (ad g k), .ref (ad g 1), .int p] M (PI (fun v M' => v = sRate (M 2) p (cX M k) ∧ M' = M)) := by
  refine call_of (by decide +kernel) (Nat.le_of_ble_eq_true rfl) (fun x hxl F R => ?_)
  subst hxl
  refine ex_aload_n F dX1_rate_0 rfl rfl ?_
  refine ex_callVi F (c_X1_hasCome hk) dX1_rate_1 cs_X1_rate_55 (ob_1 hk) rfl rfl rfl rfl (Nat.le_of_ble_eq_true rfl) (fun v1 M1 h1 => ?_)
  obtain ⟨rfl, q1⟩ := h1
  rw [q1]
  clear q1
  refine ex_if_eq (t := 17) F dX1_rate_4 (by decide) (fun c4 => ?_) (fun c4 => ?_)
  · refine ex_aload_n F dX1_rate_17 rfl rfl ?_
    refine ex_aload_n F dX1_rate_18 rfl rfl ?_
    refine ex_callVi F (c_X1_hardness hk) dX1_rate_19 cs_X1_rate_95 (ob_1 hk) rfl rfl rfl rfl (Nat.le_of_ble_eq_true rfl) (fun v19 M19 h19 => ?_)
    obtain ⟨rfl, q19⟩ := h19
    rw [q19]
    clear q19
    refine ex_istore_n F dX1_rate_22 rfl (by decide) ?_
    refine ex_bipush (v := 100) F dX1_rate_23 (by decide) ?_
    refine ex_iload_n F dX1_rate_25 rfl rfl ?_
    refine ex_bipush (v := 100) F dX1_rate_26 (by decide) ?_
    refine ex_iload_n F dX1_rate_28 rfl rfl ?_
    refine ex_isub F dX1_rate_29 ?_
    refine ex_imul F dX1_rate_30 ?_
    refine ex_aload_n F dX1_rate_31 rfl rfl ?_
    refine gf_1_4 hk F dX1_rate_32 fl_X1_37 ?_
    refine ex_imul F dX1_rate_35 ?_
    refine ex_sipush (v := 25000) F dX1_rate_36 (by decide) ?_
    refine ex_idiv F dX1_rate_39 (by decide) ?_
    refine ex_mmin F dX1_rate_40 ml_X1_69 st_min ini_math cd_min (by decide) (Nat.le_of_ble_eq_true rfl) ?_
    exact ex_iret F R dX1_rate_43 rfl (⟨by simp_all [b2i_0, b2i_1, b2i, cX, sRate], rfl⟩)
  · refine ex_bipush (v := 100) F dX1_rate_7 (by decide) ?_
    refine ex_bipush (v := 20) F dX1_rate_9 (by decide) ?_
    refine ex_iload_n F dX1_rate_11 rfl rfl ?_
    refine ex_imul F dX1_rate_12 ?_
    refine ex_mmin F dX1_rate_13 ml_X1_69 st_min ini_math cd_min (by decide) (Nat.le_of_ble_eq_true rfl) ?_
    exact ex_iret F R dX1_rate_16 rfl (⟨by simp_all [b2i_0, b2i_1, b2i, cX, sRate], rfl⟩)
set_option maxRecDepth 100000 in
theorem c_X1_joinDrops {l : Launch} {g : XG} {M : Mem} {k : Nat} (hk : isO 1 k) {rate : Int32} : Call l g YX1_joinDrops [.ref (ad g k), .int rate] M (PV (fun M' => M' = putC M k (sJn rate 6 (cX M k)))) := by
  refine call_of (by decide +kernel) (Nat.le_of_ble_eq_true rfl) (fun x hxl F R => ?_)
  subst hxl
  refine ex_aload_n F dX1_joinDrops_0 rfl rfl ?_
  refine gf_1_0 hk (q9 := (k + 1)) rfl F dX1_joinDrops_1 fl_X1_11 ?_
  refine ex_ilen (n := 7) (v := 7) F dX1_joinDrops_4 (tI_1_0 hk) (by decide) ?_
  refine ex_iconst (v := 2) F dX1_joinDrops_5 (by decide) ?_
  refine ex_isub F dX1_joinDrops_6 ?_
  refine ex_istore_n F dX1_joinDrops_7 rfl (by decide) ?_
  have key : ∀ (n : Nat) (v : Int32) (c : Nat → Int32), n ≤ 6 → v = nI n + (-1) → sJn rate n c = sJn rate 6 (cX M k) → EX x g (xmL YX1_joinDrops) (putC M k c) 8 [(0, .ref (ad g k)), (1, .int rate), (2, .int v)] [] := by
    intro n
    induction n with
    | zero =>
      intro v c hn hv hc
      subst hv
      refine ex_iload_n F dX1_joinDrops_8 rfl rfl ?_
      refine ex_if_lt (t := 55) F dX1_joinDrops_9 (by decide) (fun _ => ?_) (fun c => absurd (by decide) c)
      exact ex_vret F R dX1_joinDrops_55 rfl (by rw [← hc]; rfl)
    | succ n ih =>
      intro v c hn hv hc
      rw [pk_m1] at hv
      subst hv
      refine ex_iload_n F dX1_joinDrops_8 rfl rfl ?_
      refine ex_if_lt (t := 55) F dX1_joinDrops_9 (by decide) (fun c => absurd c (nI_pos (by omega))) (fun _ => ?_)
      refine ex_iload_n F dX1_joinDrops_12 rfl rfl ?_
      refine ex_aload_n F dX1_joinDrops_13 rfl rfl ?_
      refine gf_1_0 hk (q9 := (k + 1)) rfl F dX1_joinDrops_14 fl_X1_11 ?_
      refine ex_iload_n F dX1_joinDrops_17 rfl rfl ?_
      refine ex_iald (n := 7) F dX1_joinDrops_18 (tI_1_0 hk) (vp_in_nI (by omega) (by decide)) (j := n) (nI_clamp (by omega)) ?_
      refine ex_imul F dX1_joinDrops_19 ?_
      refine ex_sipush (v := 200) F dX1_joinDrops_20 (by decide) ?_
      refine ex_idiv F dX1_joinDrops_23 (by decide) ?_
      refine ex_istore_n F dX1_joinDrops_24 rfl (by decide) ?_
      refine ex_aload_n F dX1_joinDrops_25 rfl rfl ?_
      refine gf_1_0 hk (q9 := (k + 1)) rfl F dX1_joinDrops_26 fl_X1_11 ?_
      refine ex_iload_n F dX1_joinDrops_29 rfl rfl ?_
      refine ex_dup2 F dX1_joinDrops_30 rfl rfl ?_
      refine ex_iald (n := 7) F dX1_joinDrops_31 (tI_1_0 hk) (vp_in_nI (by omega) (by decide)) (j := n) (nI_clamp (by omega)) ?_
      refine ex_iconst (v := 2) F dX1_joinDrops_32 (by decide) ?_
      refine ex_iload_n F dX1_joinDrops_33 rfl rfl ?_
      refine ex_imul F dX1_joinDrops_34 ?_
      refine ex_isub F dX1_joinDrops_35 ?_
      refine ex_iast (n := 7) F dX1_joinDrops_36 (tI_1_0 hk) (vp_in_nI (by omega) (by decide)) (j := n) (nI_clamp (by omega)) ?_
      refine ex_aload_n F dX1_joinDrops_37 rfl rfl ?_
      refine gf_1_0 hk (q9 := (k + 1)) rfl F dX1_joinDrops_38 fl_X1_11 ?_
      refine ex_iload_n F dX1_joinDrops_41 rfl rfl ?_
      refine ex_iconst (v := 1) F dX1_joinDrops_42 (by decide) ?_
      refine ex_iadd F dX1_joinDrops_43 ?_
      refine ex_dup2 F dX1_joinDrops_44 rfl rfl ?_
      refine ex_iald (n := 7) F dX1_joinDrops_45 (tI_1_0 hk) (by rw [← nI_succ]; exact vp_in_nI (by omega) (by decide)) (j := n + 1) (by rw [← nI_succ]; exact nI_clamp (by omega)) ?_
      refine ex_iload_n F dX1_joinDrops_46 rfl rfl ?_
      refine ex_iadd F dX1_joinDrops_47 ?_
      refine ex_iast (n := 7) F dX1_joinDrops_48 (tI_1_0 hk) (by rw [← nI_succ]; exact vp_in_nI (by omega) (by decide)) (j := n + 1) (by rw [← nI_succ]; exact nI_clamp (by omega)) ?_
      refine ex_iinc (w := _ + (-1)) F dX1_joinDrops_49 rfl rfl (by decide) ?_
      refine ex_goto (t := 8) F dX1_joinDrops_52 (by decide) ?_
      refine ex_weak2 (L1 := [(0, .ref (ad g k)), (1, .int rate), (2, .int (nI n + (-1)))]) ?_ ⟨rfl, rfl, rfl, trivial⟩
      refine ex_M (M1 := putC M k (sJ rate n c)) ?_ (ih _ _ (by omega) rfl hc)
      simp [mu_cd, putC_putC, cX_putC, rd_d, sJ, pk_un (show n + 1 + 6 ≠ n + 6 by omega)]
  exact ex_M (putC_cX M k).symm (ex_weak2 (key 6 _ _ (by decide) (by decide) rfl) ⟨rfl, rfl, rfl, trivial⟩)
set_option maxRecDepth 100000 in
theorem c_X1_fatFrom {l : Launch} {g : XG} {M : Mem} {k : Nat} (hk : isO 1 k) {v0 : Int32} {i0 : Nat} (hv : v0 = nI i0) (hi : i0 ≤ 7) : Call l g YX1_fatFrom [.ref (ad g k), .int v0] M (PI (fun v M' => v = sFat (cX M k) i0 ∧ M' = M)) := by
  refine call_of (by decide +kernel) (Nat.le_of_ble_eq_true rfl) (fun x hxl F R => ?_)
  subst hxl
  refine ex_iconst (v := 0) F dX1_fatFrom_0 (by decide) ?_
  refine ex_istore_n F dX1_fatFrom_1 rfl (by decide) ?_
  refine ex_iconst (v := 0) F dX1_fatFrom_2 (by decide) ?_
  refine ex_iload_n F dX1_fatFrom_3 rfl rfl ?_
  refine ex_mmax F dX1_fatFrom_4 ml_X1_72 st_max ini_math cd_max (by decide) (Nat.le_of_ble_eq_true rfl) ?_
  refine ex_istore_n F dX1_fatFrom_7 rfl (by decide) ?_
  have key : ∀ (n i : Nat) (a : Int32), i + n = 7 → sFatN (cX M k) n a = sFat (cX M k) i0 → EX x g (xmL YX1_fatFrom) M 8 [(0, .ref (ad g k)), (2, .int a), (3, .int (nI i))] [] := by
    intro n
    induction n with
    | zero =>
      intro i a hi ha
      obtain rfl : i = 7 := by omega
      refine ex_iload_n F dX1_fatFrom_8 rfl rfl ?_
      refine ex_aload_n F dX1_fatFrom_9 rfl rfl ?_
      refine gf_1_0 hk (q9 := (k + 1)) rfl F dX1_fatFrom_10 fl_X1_11 ?_
      refine ex_ilen (n := 7) (v := 7) F dX1_fatFrom_13 (tI_1_0 hk) (by decide) ?_
      refine ex_icmp_ge (t := 34) F dX1_fatFrom_14 (by decide) (fun _ => ?_) (fun c => absurd (by decide) c)
      refine ex_iload_n F dX1_fatFrom_34 rfl rfl ?_
      exact ex_iret F R dX1_fatFrom_35 rfl (⟨ha, rfl⟩)
    | succ n ih =>
      intro i a hi ha
      obtain rfl : i = 6 - n := by omega
      refine ex_iload_n F dX1_fatFrom_8 rfl rfl ?_
      refine ex_aload_n F dX1_fatFrom_9 rfl rfl ?_
      refine gf_1_0 hk (q9 := (k + 1)) rfl F dX1_fatFrom_10 fl_X1_11 ?_
      refine ex_ilen (n := 7) (v := 7) F dX1_fatFrom_13 (tI_1_0 hk) (by decide) ?_
      refine ex_icmp_ge (t := 34) F dX1_fatFrom_14 (by decide) (fun c => absurd c (nI_ge (b := 7) (by omega) (by decide))) (fun _ => ?_)
      refine ex_iload_n F dX1_fatFrom_17 rfl rfl ?_
      refine ex_aload_n F dX1_fatFrom_18 rfl rfl ?_
      refine gf_1_0 hk (q9 := (k + 1)) rfl F dX1_fatFrom_19 fl_X1_11 ?_
      refine ex_iload_n F dX1_fatFrom_22 rfl rfl ?_
      refine ex_iald (n := 7) F dX1_fatFrom_23 (tI_1_0 hk) (vp_in_nI (by omega) (by decide)) (j := 6 - n) (nI_clamp (by omega)) ?_
      refine ex_iload_n F dX1_fatFrom_24 rfl rfl ?_
      refine ex_ishl F dX1_fatFrom_25 ?_
      refine ex_iadd F dX1_fatFrom_26 ?_
      refine ex_istore_n F dX1_fatFrom_27 rfl (by decide) ?_
      refine ex_iinc (w := _ + 1) F dX1_fatFrom_28 rfl rfl (by decide) ?_
      refine ex_goto (t := 8) F dX1_fatFrom_31 (by decide) ?_
      refine ex_weak2 (L1 := [(0, .ref (ad g k)), (2, .int (a + M (k + 1) (6 - n) <<< (nI (6 - n) &&& 31))), (3, .int (nI (6 - n) + 1))]) ?_ ⟨rfl, rfl, rfl, trivial⟩
      rw [nI_1]
      exact ih (6 - n + 1) _ (by omega) (by rw [← ha]; show _ = sFatN _ n _; rw [show cX M k (6 - n + 6) = M (k + 1) (6 - n) by simp [cX, show ¬ 6 - n + 6 < 6 by omega]])
  have e : (if (0 : Int32) < v0 then v0 else 0) = nI i0 := by
    rw [hv]
    by_cases h : (0 : Int32) < nI i0
    · rw [if_pos h]
    · rw [if_neg h]
      obtain rfl : i0 = 0 := by
        rcases Nat.eq_zero_or_pos i0 with h0 | h0
        · exact h0
        · exact absurd (nI_lt (a := 0) h0 (by omega)) h
      rfl
  rw [e]
  exact ex_weak2 (key (7 - i0) i0 0 (by omega) rfl) ⟨rfl, rfl, rfl, trivial⟩
end
section
def bitI (b : Int32) (i : Nat) : Bool := !decide ((b >>> (nI i &&& 31)) &&& 1 = 0)
def sLitN (li : Nat → Int32) (b : Int32) : Nat → Int32
  | 0 => 0
  | n + 1 => if bitI b n = true then sLitN li b n + li n else sLitN li b n
def sSumN (li ha : Nat → Int32) (b : Int32) : Nat → Int32
  | 0 => 0
  | n + 1 => if bitI b n = true then sSumN li ha b n + li n * ha n else sSumN li ha b n
def sHardOf (li ha : Nat → Int32) (b : Int32) : Int32 := if 0 < sLitN li b 8 then sSumN li ha b 8 / sLitN li b 8 else 0
def sGood (r : Nat → Int32) (h : Int32) : Bool := decide (r 7 ≤ h) && decide (h ≤ r 8)
def sAll (n : Int32) : Int32 := 1 <<< (n &&& 31) - 1
def sHasCows (n b : Int32) : Bool := decide (0 ≤ b) && decide (b ≤ sAll n)
def sHasCow (n c : Int32) : Bool := decide (0 ≤ c) && decide (c < n) && decide (c < 8)
def sHalfN (n : Nat) (c : Nat → Int32) : Nat → Int32 := fun j => if j = 0 ∨ j = 3 ∨ (6 ≤ j ∧ j < 6 + n) then c j / 2 else c j
def sFillN (n : Nat) (li ha : Int32) (w : Int32) (dr c : Nat → Int32) : Nat → Int32 := fun j => if j = 0 then li else if j = 1 then w else if j = 2 then ha else if j = 3 then 0 else if j = 4 then 0 else if j = 5 then -4 else if j < 6 + n then (if j < 10 then li * dr (j - 6) else 0) else c j
def cpC (a b : Nat → Int32) : Nat → Int32 := fun j => if j < 13 then a j else b j

set_option maxRecDepth 100000 in
theorem c_X6_litresOf {l : Launch} {g : XG} {M : Mem} {b : Int32} : Call l g YX6_litresOf [.ref (ad g 1), .int b] M (PI (fun v M' => v = sLitN (M 4) b 8 ∧ M' = M)) := by
  refine call_of (by decide +kernel) (Nat.le_of_ble_eq_true rfl) (fun x hxl F R => ?_)
  subst hxl
  refine ex_iconst (v := 0) F dX6_litresOf_0 (by decide) ?_
  refine ex_istore_n F dX6_litresOf_1 rfl (by decide) ?_
  refine ex_iconst (v := 0) F dX6_litresOf_2 (by decide) ?_
  refine ex_istore_n F dX6_litresOf_3 rfl (by decide) ?_
  have key : ∀ (m i : Nat) (a v : Int32), i + m = 8 → v = nI i → a = sLitN (M 4) b i → EX x g (xmL YX6_litresOf) M 4 [(0, .ref (ad g 1)), (1, .int b), (2, .int a), (3, .int v)] [] := by
    intro m
    induction m with
    | zero =>
      intro i a v hi hv ha
      obtain rfl : i = 8 := by omega
      subst hv
      refine ex_iload_n F dX6_litresOf_4 rfl rfl ?_
      refine ex_aload_n F dX6_litresOf_5 rfl rfl ?_
      refine gf_6_2 (by decide) (q9 := 4) rfl F dX6_litresOf_6 fl_X6_27 ?_
      refine ex_ilen (n := 8) (v := 8) F dX6_litresOf_9 (by decide) (by decide) ?_
      refine ex_icmp_ge (t := 36) F dX6_litresOf_10 (by decide) (fun _ => ?_) (fun c => absurd (by decide) c)
      refine ex_iload_n F dX6_litresOf_36 rfl rfl ?_
      exact ex_iret F R dX6_litresOf_37 rfl (⟨ha, rfl⟩)
    | succ m ih =>
      intro i a v hi hv ha
      subst hv
      refine ex_iload_n F dX6_litresOf_4 rfl rfl ?_
      refine ex_aload_n F dX6_litresOf_5 rfl rfl ?_
      refine gf_6_2 (by decide) (q9 := 4) rfl F dX6_litresOf_6 fl_X6_27 ?_
      refine ex_ilen (n := 8) (v := 8) F dX6_litresOf_9 (by decide) (by decide) ?_
      refine ex_icmp_ge (t := 36) F dX6_litresOf_10 (by decide) (fun c => absurd c (nI_ge (b := 8) (by omega) (by decide))) (fun _ => ?_)
      refine ex_iload_n F dX6_litresOf_13 rfl rfl ?_
      refine ex_iload_n F dX6_litresOf_14 rfl rfl ?_
      refine ex_ishr F dX6_litresOf_15 ?_
      refine ex_iconst (v := 1) F dX6_litresOf_16 (by decide) ?_
      refine ex_iand F dX6_litresOf_17 ?_
      refine ex_if_eq (t := 30) F dX6_litresOf_18 (by decide) (fun c18 => ?_) (fun c18 => ?_)
      · refine ex_iinc (w := _ + 1) F dX6_litresOf_30 rfl rfl (by decide) ?_
        refine ex_goto (t := 4) F dX6_litresOf_33 (by decide) ?_
        have e : ¬ bitI b i = true := by simp [bitI, c18]
        exact ex_weak2 (ih (i + 1) _ _ (by omega) (nI_1 i) (by rw [sLitN, if_neg e]; exact ha)) ⟨rfl, rfl, rfl, rfl, trivial⟩
      · refine ex_iload_n F dX6_litresOf_21 rfl rfl ?_
        refine ex_aload_n F dX6_litresOf_22 rfl rfl ?_
        refine gf_6_2 (by decide) (q9 := 4) rfl F dX6_litresOf_23 fl_X6_27 ?_
        refine ex_iload_n F dX6_litresOf_26 rfl rfl ?_
        refine ex_iald (n := 8) F dX6_litresOf_27 (by decide) (vp_in_nI (by omega) (by decide)) (j := i) (nI_clamp (by omega)) ?_
        refine ex_iadd F dX6_litresOf_28 ?_
        refine ex_istore_n F dX6_litresOf_29 rfl (by decide) ?_
        refine ex_iinc (w := _ + 1) F dX6_litresOf_30 rfl rfl (by decide) ?_
        refine ex_goto (t := 4) F dX6_litresOf_33 (by decide) ?_
        have e : bitI b i = true := by simp [bitI, c18]
        exact ex_weak2 (ih (i + 1) _ _ (by omega) (nI_1 i) (by rw [sLitN, if_pos e, ha])) ⟨rfl, rfl, rfl, rfl, trivial⟩
  exact ex_weak2 (key 8 0 _ _ (by omega) rfl rfl) ⟨rfl, rfl, rfl, rfl, trivial⟩
theorem cs_X6_hardOf_47 : CSV (xmN YX6_hardOf).cls (xmF YX6_hardOf) (xmW YX6_hardOf) 47 1 YX6_litresOf := ⟨⟨ml_X6_47, ini_X6, cd_X6_litresOf, by decide +kernel, by decide⟩, im_X6_litresOf, se_X6_litresOf⟩
set_option maxRecDepth 100000 in
theorem c_X6_hardOf {l : Launch} {g : XG} {M : Mem} {b : Int32} : Call l g YX6_hardOf [.ref (ad g 1), .int b] M (PI (fun v M' => v = sHardOf (M 4) (M 5) b ∧ M' = M)) := by
  refine call_of (by decide +kernel) (Nat.le_of_ble_eq_true rfl) (fun x hxl F R => ?_)
  subst hxl
  refine ex_iconst (v := 0) F dX6_hardOf_0 (by decide) ?_
  refine ex_istore_n F dX6_hardOf_1 rfl (by decide) ?_
  refine ex_iconst (v := 0) F dX6_hardOf_2 (by decide) ?_
  refine ex_istore_n F dX6_hardOf_3 rfl (by decide) ?_
  have key : ∀ (m i : Nat) (a v : Int32), i + m = 8 → v = nI i → a = sSumN (M 4) (M 5) b i → EX x g (xmL YX6_hardOf) M 4 [(0, .ref (ad g 1)), (1, .int b), (2, .int a), (3, .int v)] [] := by
    intro m
    induction m with
    | zero =>
      intro i a v hi hv ha
      obtain rfl : i = 8 := by omega
      subst hv
      refine ex_iload_n F dX6_hardOf_4 rfl rfl ?_
      refine ex_aload_n F dX6_hardOf_5 rfl rfl ?_
      refine gf_6_2 (by decide) (q9 := 4) rfl F dX6_hardOf_6 fl_X6_27 ?_
      refine ex_ilen (n := 8) (v := 8) F dX6_hardOf_9 (by decide) (by decide) ?_
      refine ex_icmp_ge (t := 52) F dX6_hardOf_10 (by decide) (fun _ => ?_) (fun c => absurd (by decide) c)
      refine ex_aload_n F dX6_hardOf_52 rfl rfl ?_
      refine ex_iload_n F dX6_hardOf_53 rfl rfl ?_
      refine ex_callVi F (c_X6_litresOf) dX6_hardOf_54 cs_X6_hardOf_47 (ob_6 (by decide)) rfl rfl rfl rfl (Nat.le_of_ble_eq_true rfl) (fun v54 M54 h54 => ?_)
      obtain ⟨rfl, q54⟩ := h54
      rw [q54]
      clear q54
      refine ex_istore_n F dX6_hardOf_57 rfl (by decide) ?_
      refine ex_iload_n F dX6_hardOf_58 rfl rfl ?_
      refine ex_if_le (t := 68) F dX6_hardOf_59 (by decide) (fun c59 => ?_) (fun c59 => ?_)
      · refine ex_iconst (v := 0) F dX6_hardOf_68 (by decide) ?_
        exact ex_iret F R dX6_hardOf_69 rfl (⟨by first | (rw [sHardOf, if_pos (Int32.not_le.mp c59), ha]) | (rw [sHardOf, if_neg (Int32.not_lt.mpr c59)]), rfl⟩)
      · refine ex_iload_n F dX6_hardOf_62 rfl rfl ?_
        refine ex_iload_n F dX6_hardOf_63 rfl rfl ?_
        refine ex_idiv F dX6_hardOf_64 (fun h => c59 (by rw [h]; decide)) ?_
        refine ex_goto (t := 69) F dX6_hardOf_65 (by decide) ?_
        exact ex_iret F R dX6_hardOf_69 rfl (⟨by first | (rw [sHardOf, if_pos (Int32.not_le.mp c59), ha]) | (rw [sHardOf, if_neg (Int32.not_lt.mpr c59)]), rfl⟩)
    | succ m ih =>
      intro i a v hi hv ha
      subst hv
      refine ex_iload_n F dX6_hardOf_4 rfl rfl ?_
      refine ex_aload_n F dX6_hardOf_5 rfl rfl ?_
      refine gf_6_2 (by decide) (q9 := 4) rfl F dX6_hardOf_6 fl_X6_27 ?_
      refine ex_ilen (n := 8) (v := 8) F dX6_hardOf_9 (by decide) (by decide) ?_
      refine ex_icmp_ge (t := 52) F dX6_hardOf_10 (by decide) (fun c => absurd c (nI_ge (b := 8) (by omega) (by decide))) (fun _ => ?_)
      refine ex_iload_n F dX6_hardOf_13 rfl rfl ?_
      refine ex_aload_n F dX6_hardOf_14 rfl rfl ?_
      refine gf_6_3 (by decide) (q9 := 5) rfl F dX6_hardOf_15 fl_X6_30 ?_
      refine ex_ilen (n := 8) (v := 8) F dX6_hardOf_18 (by decide) (by decide) ?_
      refine ex_icmp_ge (t := 52) F dX6_hardOf_19 (by decide) (fun c => absurd c (nI_ge (b := 8) (by omega) (by decide))) (fun _ => ?_)
      refine ex_iload_n F dX6_hardOf_22 rfl rfl ?_
      refine ex_iload_n F dX6_hardOf_23 rfl rfl ?_
      refine ex_ishr F dX6_hardOf_24 ?_
      refine ex_iconst (v := 1) F dX6_hardOf_25 (by decide) ?_
      refine ex_iand F dX6_hardOf_26 ?_
      refine ex_if_eq (t := 46) F dX6_hardOf_27 (by decide) (fun c27 => ?_) (fun c27 => ?_)
      · refine ex_iinc (w := _ + 1) F dX6_hardOf_46 rfl rfl (by decide) ?_
        refine ex_goto (t := 4) F dX6_hardOf_49 (by decide) ?_
        have e : ¬ bitI b i = true := by simp [bitI, c27]
        exact ex_weak2 (ih (i + 1) _ _ (by omega) (nI_1 i) (by rw [sSumN, if_neg e]; exact ha)) ⟨rfl, rfl, rfl, rfl, trivial⟩
      · refine ex_iload_n F dX6_hardOf_30 rfl rfl ?_
        refine ex_aload_n F dX6_hardOf_31 rfl rfl ?_
        refine gf_6_2 (by decide) (q9 := 4) rfl F dX6_hardOf_32 fl_X6_27 ?_
        refine ex_iload_n F dX6_hardOf_35 rfl rfl ?_
        refine ex_iald (n := 8) F dX6_hardOf_36 (by decide) (vp_in_nI (by omega) (by decide)) (j := i) (nI_clamp (by omega)) ?_
        refine ex_aload_n F dX6_hardOf_37 rfl rfl ?_
        refine gf_6_3 (by decide) (q9 := 5) rfl F dX6_hardOf_38 fl_X6_30 ?_
        refine ex_iload_n F dX6_hardOf_41 rfl rfl ?_
        refine ex_iald (n := 8) F dX6_hardOf_42 (by decide) (vp_in_nI (by omega) (by decide)) (j := i) (nI_clamp (by omega)) ?_
        refine ex_imul F dX6_hardOf_43 ?_
        refine ex_iadd F dX6_hardOf_44 ?_
        refine ex_istore_n F dX6_hardOf_45 rfl (by decide) ?_
        refine ex_iinc (w := _ + 1) F dX6_hardOf_46 rfl rfl (by decide) ?_
        refine ex_goto (t := 4) F dX6_hardOf_49 (by decide) ?_
        have e : bitI b i = true := by simp [bitI, c27]
        exact ex_weak2 (ih (i + 1) _ _ (by omega) (nI_1 i) (by rw [sSumN, if_pos e, ha])) ⟨rfl, rfl, rfl, rfl, trivial⟩
  exact ex_weak2 (key 8 0 _ _ (by omega) rfl rfl) ⟨rfl, rfl, rfl, rfl, trivial⟩
set_option maxRecDepth 100000 in
theorem c_X6_isGood {l : Launch} {g : XG} {M : Mem} {h : Int32} : Call l g YX6_isGood [.ref (ad g 1), .int h] M (PI (fun v M' => v = b2i (sGood (M 2) h) ∧ M' = M)) := by
  refine call_of (by decide +kernel) (Nat.le_of_ble_eq_true rfl) (fun x hxl F R => ?_)
  subst hxl
  refine ex_iload_n F dX6_isGood_0 rfl rfl ?_
  refine ex_aload_n F dX6_isGood_1 rfl rfl ?_
  refine gf_6_0 (by decide) (q9 := 2) rfl F dX6_isGood_2 fl_X6_18 ?_
  refine ex_bipush (v := 7) F dX6_isGood_5 (by decide) ?_
  refine ex_iald (n := 9) F dX6_isGood_7 (by decide) (vpd (by decide)) (j := 7) (by decide) ?_
  refine ex_icmp_lt (t := 26) F dX6_isGood_8 (by decide) (fun c8 => ?_) (fun c8 => ?_)
  · refine ex_iconst (v := 0) F dX6_isGood_26 (by decide) ?_
    exact ex_zret (ty := .boolean) F R dX6_isGood_27 rfl (rfl) (⟨by simp_all [b2i_0, b2i_1, b2i, lt_nle, -Int32.not_le, -Int32.not_lt, sGood], rfl⟩)
  · refine ex_iload_n F dX6_isGood_11 rfl rfl ?_
    refine ex_aload_n F dX6_isGood_12 rfl rfl ?_
    refine gf_6_0 (by decide) (q9 := 2) rfl F dX6_isGood_13 fl_X6_18 ?_
    refine ex_bipush (v := 8) F dX6_isGood_16 (by decide) ?_
    refine ex_iald (n := 9) F dX6_isGood_18 (by decide) (vpd (by decide)) (j := 8) (by decide) ?_
    refine ex_icmp_gt (t := 26) F dX6_isGood_19 (by decide) (fun c19 => ?_) (fun c19 => ?_)
    · refine ex_iconst (v := 0) F dX6_isGood_26 (by decide) ?_
      exact ex_zret (ty := .boolean) F R dX6_isGood_27 rfl (rfl) (⟨by simp_all [b2i_0, b2i_1, b2i, lt_nle, -Int32.not_le, -Int32.not_lt, sGood], rfl⟩)
    · refine ex_iconst (v := 1) F dX6_isGood_22 (by decide) ?_
      refine ex_goto (t := 27) F dX6_isGood_23 (by decide) ?_
      exact ex_zret (ty := .boolean) F R dX6_isGood_27 rfl (rfl) (⟨by simp_all [b2i_0, b2i_1, b2i, lt_nle, -Int32.not_le, -Int32.not_lt, sGood], rfl⟩)
set_option maxRecDepth 100000 in
theorem c_X6_allCows {l : Launch} {g : XG} {M : Mem}  : Call l g YX6_allCows [.ref (ad g 1)] M (PI (fun v M' => v = sAll (M 1 4) ∧ M' = M)) := by
  refine call_of (by decide +kernel) (Nat.le_of_ble_eq_true rfl) (fun x hxl F R => ?_)
  subst hxl
  refine ex_iconst (v := 1) F dX6_allCows_0 (by decide) ?_
  refine ex_aload_n F dX6_allCows_1 rfl rfl ?_
  refine gf_6_4 (by decide) F dX6_allCows_2 fl_X6_39 ?_
  refine ex_ishl F dX6_allCows_5 ?_
  refine ex_iconst (v := 1) F dX6_allCows_6 (by decide) ?_
  refine ex_isub F dX6_allCows_7 ?_
  exact ex_iret F R dX6_allCows_8 rfl (⟨rfl, rfl⟩)
theorem cs_X6_hasCows_43 : CSV (xmN YX6_hasCows).cls (xmF YX6_hasCows) (xmW YX6_hasCows) 43 0 YX6_allCows := ⟨⟨ml_X6_43, ini_X6, cd_X6_allCows, by decide +kernel, by decide⟩, im_X6_allCows, se_X6_allCows⟩
set_option maxRecDepth 100000 in
theorem c_X6_hasCows {l : Launch} {g : XG} {M : Mem} {b : Int32} : Call l g YX6_hasCows [.ref (ad g 1), .int b] M (PI (fun v M' => v = b2i (sHasCows (M 1 4) b) ∧ M' = M)) := by
  refine call_of (by decide +kernel) (Nat.le_of_ble_eq_true rfl) (fun x hxl F R => ?_)
  subst hxl
  refine ex_iload_n F dX6_hasCows_0 rfl rfl ?_
  refine ex_if_lt (t := 16) F dX6_hasCows_1 (by decide) (fun c1 => ?_) (fun c1 => ?_)
  · refine ex_iconst (v := 0) F dX6_hasCows_16 (by decide) ?_
    exact ex_zret (ty := .boolean) F R dX6_hasCows_17 rfl (rfl) (⟨by simp_all [b2i_0, b2i_1, b2i, lt_nle, -Int32.not_le, -Int32.not_lt, sHasCows], rfl⟩)
  · refine ex_iload_n F dX6_hasCows_4 rfl rfl ?_
    refine ex_aload_n F dX6_hasCows_5 rfl rfl ?_
    refine ex_callVi F (c_X6_allCows) dX6_hasCows_6 cs_X6_hasCows_43 (ob_6 (by decide)) rfl rfl rfl rfl (Nat.le_of_ble_eq_true rfl) (fun v6 M6 h6 => ?_)
    obtain ⟨rfl, q6⟩ := h6
    rw [q6]
    clear q6
    refine ex_icmp_gt (t := 16) F dX6_hasCows_9 (by decide) (fun c9 => ?_) (fun c9 => ?_)
    · refine ex_iconst (v := 0) F dX6_hasCows_16 (by decide) ?_
      exact ex_zret (ty := .boolean) F R dX6_hasCows_17 rfl (rfl) (⟨by simp_all [b2i_0, b2i_1, b2i, lt_nle, -Int32.not_le, -Int32.not_lt, sHasCows], rfl⟩)
    · refine ex_iconst (v := 1) F dX6_hasCows_12 (by decide) ?_
      refine ex_goto (t := 17) F dX6_hasCows_13 (by decide) ?_
      exact ex_zret (ty := .boolean) F R dX6_hasCows_17 rfl (rfl) (⟨by simp_all [b2i_0, b2i_1, b2i, lt_nle, -Int32.not_le, -Int32.not_lt, sHasCows], rfl⟩)
set_option maxRecDepth 100000 in
theorem c_X6_hasCow {l : Launch} {g : XG} {M : Mem} {c : Int32} : Call l g YX6_hasCow [.ref (ad g 1), .int c] M (PI (fun v M' => v = b2i (sHasCow (M 1 4) c) ∧ M' = M)) := by
  refine call_of (by decide +kernel) (Nat.le_of_ble_eq_true rfl) (fun x hxl F R => ?_)
  subst hxl
  refine ex_iload_n F dX6_hasCow_0 rfl rfl ?_
  refine ex_if_lt (t := 34) F dX6_hasCow_1 (by decide) (fun c1 => ?_) (fun c1 => ?_)
  · refine ex_iconst (v := 0) F dX6_hasCow_34 (by decide) ?_
    exact ex_zret (ty := .boolean) F R dX6_hasCow_35 rfl (rfl) (⟨by simp_all [b2i_0, b2i_1, b2i, lt_nle, -Int32.not_le, -Int32.not_lt, sHasCow], rfl⟩)
  · refine ex_iload_n F dX6_hasCow_4 rfl rfl ?_
    refine ex_aload_n F dX6_hasCow_5 rfl rfl ?_
    refine gf_6_4 (by decide) F dX6_hasCow_6 fl_X6_39 ?_
    refine ex_icmp_ge (t := 34) F dX6_hasCow_9 (by decide) (fun c9 => ?_) (fun c9 => ?_)
    · refine ex_iconst (v := 0) F dX6_hasCow_34 (by decide) ?_
      exact ex_zret (ty := .boolean) F R dX6_hasCow_35 rfl (rfl) (⟨by simp_all [b2i_0, b2i_1, b2i, lt_nle, -Int32.not_le, -Int32.not_lt, sHasCow], rfl⟩)
    · refine ex_iload_n F dX6_hasCow_12 rfl rfl ?_
      refine ex_aload_n F dX6_hasCow_13 rfl rfl ?_
      refine gf_6_2 (by decide) (q9 := 4) rfl F dX6_hasCow_14 fl_X6_27 ?_
      refine ex_ilen (n := 8) (v := 8) F dX6_hasCow_17 (by decide) (by decide) ?_
      refine ex_icmp_ge (t := 34) F dX6_hasCow_18 (by decide) (fun c18 => ?_) (fun c18 => ?_)
      · refine ex_iconst (v := 0) F dX6_hasCow_34 (by decide) ?_
        exact ex_zret (ty := .boolean) F R dX6_hasCow_35 rfl (rfl) (⟨by simp_all [b2i_0, b2i_1, b2i, lt_nle, -Int32.not_le, -Int32.not_lt, sHasCow], rfl⟩)
      · refine ex_iload_n F dX6_hasCow_21 rfl rfl ?_
        refine ex_aload_n F dX6_hasCow_22 rfl rfl ?_
        refine gf_6_3 (by decide) (q9 := 5) rfl F dX6_hasCow_23 fl_X6_30 ?_
        refine ex_ilen (n := 8) (v := 8) F dX6_hasCow_26 (by decide) (by decide) ?_
        refine ex_icmp_ge (t := 34) F dX6_hasCow_27 (by decide) (fun c27 => ?_) (fun c27 => ?_)
        · refine ex_iconst (v := 0) F dX6_hasCow_34 (by decide) ?_
          exact ex_zret (ty := .boolean) F R dX6_hasCow_35 rfl (rfl) (⟨by simp_all [b2i_0, b2i_1, b2i, lt_nle, -Int32.not_le, -Int32.not_lt, sHasCow], rfl⟩)
        · refine ex_iconst (v := 1) F dX6_hasCow_30 (by decide) ?_
          refine ex_goto (t := 35) F dX6_hasCow_31 (by decide) ?_
          exact ex_zret (ty := .boolean) F R dX6_hasCow_35 rfl (rfl) (⟨by simp_all [b2i_0, b2i_1, b2i, lt_nle, -Int32.not_le, -Int32.not_lt, sHasCow], rfl⟩)
theorem cs_X1_breakIfDue_55 : CSV (xmN YX1_breakIfDue).cls (xmF YX1_breakIfDue) (xmW YX1_breakIfDue) 55 0 YX1_hasCome := ⟨⟨ml_X1_55, ini_X1, cd_X1_hasCome, by decide +kernel, by decide⟩, im_X1_hasCome, se_X1_hasCome⟩
theorem cs_X1_breakIfDue_99 : CSV (xmN YX1_breakIfDue).cls (xmF YX1_breakIfDue) (xmW YX1_breakIfDue) 99 1 YX1_fatFrom := ⟨⟨ml_X1_99, ini_X1, cd_X1_fatFrom, by decide +kernel, by decide⟩, im_X1_fatFrom, se_X1_fatFrom⟩
set_option maxRecDepth 100000 in
theorem c_X1_breakIfDue {l : Launch} {g : XG} {M : Mem} {k : Nat} (hk : isO 1 k) (hR : okR (M 2)) : Call l g YX1_breakIfDue [.ref (ad g k), .ref (ad g 1)] M (PV (fun M' => M' = putC M k (sBreak (M 2) (cX M k)))) := by
  refine call_of (by decide +kernel) (Nat.le_of_ble_eq_true rfl) (fun x hxl F R => ?_)
  subst hxl
  obtain ⟨gr, hgr, hg3, hg6⟩ := okR_grain hR
  have hsg : sGrain (M 2) = gr := by rw [sGrain, hgr]; exact nI_clamp (by omega)
  refine ex_aload_n F dX1_breakIfDue_0 rfl rfl ?_
  refine ex_callVi F (c_X1_hasCome hk) dX1_breakIfDue_1 cs_X1_breakIfDue_55 (ob_1 hk) rfl rfl rfl rfl (Nat.le_of_ble_eq_true rfl) (fun v1 M1 h1 => ?_)
  obtain ⟨rfl, q1⟩ := h1
  rw [q1]
  clear q1
  refine ex_if_eq (t := 8) F dX1_breakIfDue_4 (by decide) (fun c4 => ?_) (fun c4 => ?_)
  · refine ex_aload_n F dX1_breakIfDue_8 rfl rfl ?_
    refine ex_iconst (v := 0) F dX1_breakIfDue_9 (by decide) ?_
    refine ex_callVi F (c_X1_fatFrom hk (i0 := 0) rfl (by decide)) dX1_breakIfDue_10 cs_X1_breakIfDue_99 (ob_1 hk) rfl rfl rfl rfl (Nat.le_of_ble_eq_true rfl) (fun v10 M10 h10 => ?_)
    obtain ⟨rfl, q10⟩ := h10
    rw [q10]
    clear q10
    refine ex_istore_n F dX1_breakIfDue_13 rfl (by decide) ?_
    refine ex_iload_n F dX1_breakIfDue_14 rfl rfl ?_
    refine ex_if_le (t := 47) F dX1_breakIfDue_15 (by decide) (fun c15 => ?_) (fun c15 => ?_)
    · exact ex_vret F R dX1_breakIfDue_47 rfl (by first | (rw [sBreak, if_neg (by rw [b2i_0.mp c4]; decide), if_neg (by simp only [sDue, hsg, Bool.and_eq_true, decide_eq_true_eq]; exact fun q => absurd q.1 (Int32.not_lt.mpr c15)), putC_cX]) | (rw [sBreak, if_neg (by rw [b2i_0.mp c4]; decide), if_neg (by simp only [sDue, hsg, Bool.and_eq_true, decide_eq_true_eq]; exact fun q => absurd q.2 (Int32.not_le.mpr c31)), putC_cX]) | (rw [sBreak, if_neg (by rw [b2i_0.mp c4]; decide), if_pos (by simp only [sDue, hsg, Bool.and_eq_true, decide_eq_true_eq]; exact ⟨Int32.not_le.mp c15, Int32.not_lt.mp c31⟩)]; simp [mu_c1, mu_c2, mu_c3, mu_c4, mu_c5, mu_c6, mu_cd, putC_putC, cX_putC, putC_cX, rd_1, rd_2, rd_3, rd_4, rd_5, rd_6, rd_d]; rfl))
    · refine ex_iconst (v := 2) F dX1_breakIfDue_18 (by decide) ?_
      refine ex_aload_n F dX1_breakIfDue_19 rfl rfl ?_
      refine ex_aload_n F dX1_breakIfDue_20 rfl rfl ?_
      refine gf_6_0 (by decide) (q9 := 2) rfl F dX1_breakIfDue_21 fl_X1_52 ?_
      refine ex_iconst (v := 5) F dX1_breakIfDue_24 (by decide) ?_
      refine ex_iald (n := 9) F dX1_breakIfDue_25 (by decide) (vpd (by decide)) (j := 5) (by decide) ?_
      refine ex_callVi F (c_X1_fatFrom hk hgr (by omega)) dX1_breakIfDue_26 cs_X1_breakIfDue_99 (ob_1 hk) rfl rfl rfl rfl (Nat.le_of_ble_eq_true rfl) (fun v26 M26 h26 => ?_)
      obtain ⟨rfl, q26⟩ := h26
      rw [q26]
      clear q26
      refine ex_imul F dX1_breakIfDue_29 ?_
      refine ex_iload_n F dX1_breakIfDue_30 rfl rfl ?_
      refine ex_icmp_lt (t := 47) F dX1_breakIfDue_31 (by decide) (fun c31 => ?_) (fun c31 => ?_)
      · exact ex_vret F R dX1_breakIfDue_47 rfl (by first | (rw [sBreak, if_neg (by rw [b2i_0.mp c4]; decide), if_neg (by simp only [sDue, hsg, Bool.and_eq_true, decide_eq_true_eq]; exact fun q => absurd q.1 (Int32.not_lt.mpr c15)), putC_cX]) | (rw [sBreak, if_neg (by rw [b2i_0.mp c4]; decide), if_neg (by simp only [sDue, hsg, Bool.and_eq_true, decide_eq_true_eq]; exact fun q => absurd q.2 (Int32.not_le.mpr c31)), putC_cX]) | (rw [sBreak, if_neg (by rw [b2i_0.mp c4]; decide), if_pos (by simp only [sDue, hsg, Bool.and_eq_true, decide_eq_true_eq]; exact ⟨Int32.not_le.mp c15, Int32.not_lt.mp c31⟩)]; simp [mu_c1, mu_c2, mu_c3, mu_c4, mu_c5, mu_c6, mu_cd, putC_putC, cX_putC, putC_cX, rd_1, rd_2, rd_3, rd_4, rd_5, rd_6, rd_d]; rfl))
      · refine ex_aload_n F dX1_breakIfDue_34 rfl rfl ?_
        refine ex_aload_n F dX1_breakIfDue_35 rfl rfl ?_
        refine gf_1_5 hk F dX1_breakIfDue_36 fl_X1_40 ?_
        refine pf_1_6 hk F dX1_breakIfDue_39 fl_X1_15 ?_
        refine ex_aload_n F dX1_breakIfDue_42 rfl rfl ?_
        refine ex_iconst (v := 0) F dX1_breakIfDue_43 (by decide) ?_
        refine pf_1_4 hk F dX1_breakIfDue_44 fl_X1_37 ?_
        exact ex_vret F R dX1_breakIfDue_47 rfl (by first | (rw [sBreak, if_neg (by rw [b2i_0.mp c4]; decide), if_neg (by simp only [sDue, hsg, Bool.and_eq_true, decide_eq_true_eq]; exact fun q => absurd q.1 (Int32.not_lt.mpr c15)), putC_cX]) | (rw [sBreak, if_neg (by rw [b2i_0.mp c4]; decide), if_neg (by simp only [sDue, hsg, Bool.and_eq_true, decide_eq_true_eq]; exact fun q => absurd q.2 (Int32.not_le.mpr c31)), putC_cX]) | (rw [sBreak, if_neg (by rw [b2i_0.mp c4]; decide), if_pos (by simp only [sDue, hsg, Bool.and_eq_true, decide_eq_true_eq]; exact ⟨Int32.not_le.mp c15, Int32.not_lt.mp c31⟩)]; simp [mu_c1, mu_c2, mu_c3, mu_c4, mu_c5, mu_c6, mu_cd, putC_putC, cX_putC, putC_cX, rd_1, rd_2, rd_3, rd_4, rd_5, rd_6, rd_d]; rfl))
  · exact ex_vret F R dX1_breakIfDue_7 rfl (by rw [sBreak, if_pos (b2i_1.mp c4), putC_cX])
theorem cs_X1_turnOnce_75 : CSV (xmN YX1_turnOnce).cls (xmF YX1_turnOnce) (xmW YX1_turnOnce) 75 1 YX1_isSwollen := ⟨⟨ml_X1_75, ini_X1, cd_X1_isSwollen, by decide +kernel, by decide⟩, im_X1_isSwollen, se_X1_isSwollen⟩
theorem cs_X1_turnOnce_79 : CSV (xmN YX1_turnOnce).cls (xmF YX1_turnOnce) (xmW YX1_turnOnce) 79 2 YX1_beatIn := ⟨⟨ml_X1_79, ini_X1, cd_X1_beatIn, by decide +kernel, by decide⟩, im_X1_beatIn, se_X1_beatIn⟩
theorem cs_X1_turnOnce_83 : CSV (xmN YX1_turnOnce).cls (xmF YX1_turnOnce) (xmW YX1_turnOnce) 83 2 YX1_rate := ⟨⟨ml_X1_83, ini_X1, cd_X1_rate, by decide +kernel, by decide⟩, im_X1_rate, se_X1_rate⟩
theorem cs_X1_turnOnce_87 : CSV (xmN YX1_turnOnce).cls (xmF YX1_turnOnce) (xmW YX1_turnOnce) 87 1 YX1_joinDrops := ⟨⟨ml_X1_87, ini_X1, cd_X1_joinDrops, by decide +kernel, by decide⟩, im_X1_joinDrops, se_X1_joinDrops⟩
theorem cs_X1_turnOnce_91 : CSV (xmN YX1_turnOnce).cls (xmF YX1_turnOnce) (xmW YX1_turnOnce) 91 1 YX1_breakIfDue := ⟨⟨ml_X1_91, ini_X1, cd_X1_breakIfDue, by decide +kernel, by decide⟩, im_X1_breakIfDue, se_X1_breakIfDue⟩
set_option maxRecDepth 100000 in
theorem c_X1_turnOnce {l : Launch} {g : XG} {M : Mem} {k : Nat} (hk : isO 1 k) (hR : okR (M 2)) {p : Int32} : Call l g YX1_turnOnce [.ref (ad g k), .ref (ad g 1), .int p] M (PI (fun v M' => v = b2i (!sSwell (M 2) (cX M k)) ∧ M' = putC M k (sTurn (M 2) p (cX M k)))) := by
  refine call_of (by decide +kernel) (Nat.le_of_ble_eq_true rfl) (fun x hxl F R => ?_)
  subst hxl
  obtain ⟨hf, hh, hh1, hh2⟩ : ∃ n, M 2 6 = nI n ∧ 1 ≤ n ∧ n ≤ 99 := by
    obtain ⟨f, h1, h2⟩ := hR
    exact ⟨f 6, h1 6 (by decide), h2.2.2.2.2.2.2.1.1, h2.2.2.2.2.2.2.1.2⟩
  have tail : ∀ v : Int32, v = b2i (!sSwell (M 2) (cX M k)) → EX x g (xmL YX1_turnOnce) (putC M k (sTurn1 (M 2) p (cX M k))) 39 [(0, .ref (ad g k)), (1, .ref (ad g 1)), (2, .int p), (3, .int v)] [] := by
    intro v hv
    generalize hc : sTurn1 (M 2) p (cX M k) = c
    refine ex_aload_n F dX1_turnOnce_39 rfl rfl ?_
    refine ex_dup F dX1_turnOnce_40 rfl ?_
    refine gf_1_5 hk F dX1_turnOnce_41 fl_X1_40 ?_
    refine ex_iconst (v := 1) F dX1_turnOnce_44 (by decide) ?_
    refine ex_iadd F dX1_turnOnce_45 ?_
    refine pf_1_5 hk F dX1_turnOnce_46 fl_X1_40 ?_
    refine ex_M (M1 := putC M k (upd c 4 (c 4 + 1))) (by simp [mu_c1, mu_c2, mu_c3, mu_c4, mu_c5, mu_c6, mu_cd, putC_putC, cX_putC, putC_cX, rd_1, rd_2, rd_3, rd_4, rd_5, rd_6, rd_d]) ?_
    refine ex_aload_n F dX1_turnOnce_49 rfl rfl ?_
    refine gf_6_0 (by decide) (q9 := 2) rfl F dX1_turnOnce_50 fl_X1_52 ?_
    refine ex_bipush (v := 6) F dX1_turnOnce_53 (by decide) ?_
    refine ex_iald (n := 9) F dX1_turnOnce_55 (by decide) (vpd (by decide)) (j := 6) (by decide) ?_
    rw [rd_lo hk 2 (by decide)]
    refine ex_istore F dX1_turnOnce_56 (by decide) ?_
    refine ex_iload F dX1_turnOnce_58 rfl ?_
    refine ex_if_le (t := 89) F dX1_turnOnce_60 (by decide) (fun c => absurd c (by rw [hh]; exact nI_nle (by omega) (by omega))) (fun _ => ?_)
    refine ex_aload_n F dX1_turnOnce_63 rfl rfl ?_
    refine gf_1_5 hk F dX1_turnOnce_64 fl_X1_40 ?_
    rw [rd_5]
    rw [show upd c 4 (c 4 + 1) 4 = c 4 + 1 from rfl]
    refine ex_iload F dX1_turnOnce_67 rfl ?_
    refine ex_irem F dX1_turnOnce_69 (by rw [hh]; exact nI_ne0 (by omega) (by omega)) ?_
    refine ex_if_ne (t := 89) F dX1_turnOnce_70 (by decide) (fun c70 => ?_) (fun c70 => ?_)
    · refine ex_iload_n F dX1_turnOnce_89 rfl rfl ?_
      exact ex_zret (ty := .boolean) F R dX1_turnOnce_90 rfl (by rw [hv]; exact narrow_b2i _) (⟨hv, by rw [sTurn, hc]; simp_all [sTick, mu_c1, mu_c2, mu_c3, mu_c4, mu_c5, mu_c6, mu_cd, putC_putC, cX_putC, putC_cX, rd_1, rd_2, rd_3, rd_4, rd_5, rd_6, rd_d, upd]⟩)
    · refine ex_aload_n F dX1_turnOnce_73 rfl rfl ?_
      refine ex_sipush (v := 400) F dX1_turnOnce_74 (by decide) ?_
      refine ex_aload_n F dX1_turnOnce_77 rfl rfl ?_
      refine gf_1_2 hk F dX1_turnOnce_78 fl_X1_34 ?_
      refine ex_iload_n F dX1_turnOnce_81 rfl rfl ?_
      refine ex_iadd F dX1_turnOnce_82 ?_
      refine ex_mmin F dX1_turnOnce_83 ml_X1_69 st_min ini_math cd_min (by decide) (Nat.le_of_ble_eq_true rfl) ?_
      refine pf_1_2 hk F dX1_turnOnce_86 fl_X1_34 ?_
      refine ex_iload_n F dX1_turnOnce_89 rfl rfl ?_
      exact ex_zret (ty := .boolean) F R dX1_turnOnce_90 rfl (by rw [hv]; exact narrow_b2i _) (⟨hv, by rw [sTurn, hc]; simp_all [sTick, mu_c1, mu_c2, mu_c3, mu_c4, mu_c5, mu_c6, mu_cd, putC_putC, cX_putC, putC_cX, rd_1, rd_2, rd_3, rd_4, rd_5, rd_6, rd_d, upd]⟩)
  refine ex_aload_n F dX1_turnOnce_0 rfl rfl ?_
  refine ex_aload_n F dX1_turnOnce_1 rfl rfl ?_
  refine ex_callVi F (c_X1_isSwollen hk) dX1_turnOnce_2 cs_X1_turnOnce_75 (ob_1 hk) rfl rfl rfl rfl (Nat.le_of_ble_eq_true rfl) (fun v2 M2 h2 => ?_)
  obtain ⟨rfl, q2⟩ := h2
  rw [q2]
  clear q2
  refine ex_if_ne (t := 12) F dX1_turnOnce_5 (by decide) (fun c5 => ?_) (fun c5 => ?_)
  · refine ex_iconst (v := 0) F dX1_turnOnce_12 (by decide) ?_
    refine ex_istore_n F dX1_turnOnce_13 rfl (by decide) ?_
    refine ex_iload_n F dX1_turnOnce_14 rfl rfl ?_
    refine ex_if_eq (t := 39) F dX1_turnOnce_15 (by decide) (fun _ => ?_) (fun c => absurd (by decide) c)
    refine ex_M (M1 := putC M k (sTurn1 (M 2) p (cX M k))) ?_ (ex_weak2 (tail _ ?_) ⟨rfl, rfl, rfl, rfl, trivial⟩)
    · rw [sTurn1, if_pos (b2i_1.mp c5)]
      exact (putC_cX M k).symm
    · rw [b2i_1.mp c5]
      rfl
  · refine ex_iconst (v := 1) F dX1_turnOnce_8 (by decide) ?_
    refine ex_goto (t := 13) F dX1_turnOnce_9 (by decide) ?_
    refine ex_istore_n F dX1_turnOnce_13 rfl (by decide) ?_
    refine ex_iload_n F dX1_turnOnce_14 rfl rfl ?_
    refine ex_if_eq (t := 39) F dX1_turnOnce_15 (by decide) (fun c => absurd c (by decide)) (fun _ => ?_)
    refine ex_aload_n F dX1_turnOnce_18 rfl rfl ?_
    refine ex_aload_n F dX1_turnOnce_19 rfl rfl ?_
    refine ex_iload_n F dX1_turnOnce_20 rfl rfl ?_
    refine ex_callVv F (c_X1_beatIn hk) dX1_turnOnce_21 cs_X1_turnOnce_79 (ob_1 hk) rfl rfl rfl rfl (Nat.le_of_ble_eq_true rfl) (fun M21 h21 => ?_)
    rw [h21]
    refine ex_aload_n F dX1_turnOnce_24 rfl rfl ?_
    refine ex_aload_n F dX1_turnOnce_25 rfl rfl ?_
    refine ex_aload_n F dX1_turnOnce_26 rfl rfl ?_
    refine ex_iload_n F dX1_turnOnce_27 rfl rfl ?_
    refine ex_callVi F (c_X1_rate hk) dX1_turnOnce_28 cs_X1_turnOnce_83 (ob_1 hk) rfl rfl rfl rfl (Nat.le_of_ble_eq_true rfl) (fun v28 M28 h28 => ?_)
    obtain ⟨hr28, q28⟩ := h28
    rw [q28]
    clear q28
    rw [rd_lo hk 2 (by decide), cX_putC] at hr28
    refine ex_callVv F (c_X1_joinDrops hk) dX1_turnOnce_31 cs_X1_turnOnce_87 (ob_1 hk) rfl rfl rfl rfl (Nat.le_of_ble_eq_true rfl) (fun M31 h31 => ?_)
    rw [putC_putC, cX_putC] at h31
    obtain rfl := h31
    refine ex_aload_n F dX1_turnOnce_34 rfl rfl ?_
    refine ex_aload_n F dX1_turnOnce_35 rfl rfl ?_
    refine ex_callVv F (c_X1_breakIfDue hk (by rw [rd_lo hk 2 (by decide)]; exact hR)) dX1_turnOnce_36 cs_X1_turnOnce_91 (ob_1 hk) rfl rfl rfl rfl (Nat.le_of_ble_eq_true rfl) (fun M36 h36 => ?_)
    rw [putC_putC, cX_putC, rd_lo hk 2 (by decide)] at h36
    obtain rfl := h36
    refine ex_M (M1 := putC M k (sTurn1 (M 2) p (cX M k))) ?_ (ex_weak2 (tail _ ?_) ⟨rfl, rfl, rfl, rfl, trivial⟩)
    · have e : ¬ sSwell (M 2) (cX M k) = true := by rw [b2i_0.mp c5]; decide
      rw [sTurn1, if_neg e, hr28]
    · rw [b2i_0.mp c5]
      rfl
end
section
def sDropC (c : Nat → Int32) (v : Int32) : Int32 := if v < 0 then -1 else if 7 ≤ v then -1 else c (v.toNatClampNeg + 6)
theorem half0 (c : Nat → Int32) : upd (upd c 0 (c 0 / 2)) 3 (c 3 / 2) = sHalfN 0 c := by
  funext j
  by_cases h0 : j = 0
  · subst h0; simp [upd, sHalfN]
  · by_cases h3 : j = 3
    · subst h3; simp [upd, sHalfN]
    · simp [upd, sHalfN, h0, h3, show ¬ (6 ≤ j ∧ j < 6) by omega]
theorem halfS (n : Nat) (c : Nat → Int32) : upd (sHalfN n c) (n + 6) (sHalfN n c (n + 6) / 2) = sHalfN (n + 1) c := by
  funext j
  by_cases h : j = n + 6
  · subst h
    simp only [upd, if_true, sHalfN]
    rw [if_neg (by omega), if_pos (by omega)]
  · simp only [upd, if_neg h, sHalfN]
    by_cases h1 : j = 0 ∨ j = 3 ∨ (6 ≤ j ∧ j < 6 + n)
    · rw [if_pos h1, if_pos (by omega)]
    · rw [if_neg h1, if_neg (by omega)]
theorem fill0 (li ha w : Int32) (dr c : Nat → Int32) : upd (upd (upd (upd (upd (upd c 0 li) 2 ha) 1 w) 3 0) 4 0) 5 (-4) = sFillN 0 li ha w dr c := by
  funext j
  have h : j = 0 ∨ j = 1 ∨ j = 2 ∨ j = 3 ∨ j = 4 ∨ j = 5 ∨ 6 ≤ j := by omega
  rcases h with rfl | rfl | rfl | rfl | rfl | rfl | h
  all_goals first | rfl | skip
  simp [upd, sFillN, show ¬ j = 0 by omega, show ¬ j = 1 by omega, show ¬ j = 2 by omega, show ¬ j = 3 by omega, show ¬ j = 4 by omega, show ¬ j = 5 by omega, show ¬ j < 6 by omega]
theorem fillS (n : Nat) (li ha w : Int32) (dr c : Nat → Int32) : upd (sFillN n li ha w dr c) (n + 6) (if n < 4 then li * dr n else 0) = sFillN (n + 1) li ha w dr c := by
  funext j
  by_cases h : j = n + 6
  · subst h
    simp [upd, sFillN, show ¬ n + 6 = 0 by omega, show ¬ n + 6 = 1 by omega, show ¬ n + 6 = 2 by omega, show ¬ n + 6 = 3 by omega, show ¬ n + 6 = 4 by omega, show ¬ n + 6 = 5 by omega, show n + 6 < 6 + (n + 1) by omega]
    by_cases h4 : n < 4
    · rw [if_pos h4, if_pos (by omega)]
    · rw [if_neg h4, if_neg (by omega)]
  · simp only [upd, if_neg h, sFillN]
    by_cases h1 : j < 6 + n
    · simp [h1, show j < 6 + (n + 1) by omega]
    · simp [h1, show ¬ j < 6 + (n + 1) by omega]
theorem like_eq (M : Mem) (k q : Nat) (h1 : q ≠ k) (h2 : q ≠ k + 1) (h3 : q + 1 ≠ k) (M6 : Mem) (hM : M6 = mu (mu (mu (mu (mu (mu M k 1 (M q 1)) k 2 (M q 2)) k 3 (M q 3)) k 4 (M q 4)) k 5 (M q 5)) k 6 (M q 6)) :
    (fun c => if c = k + 1 then va_cpy (M6 (q + 1)) (M6 (k + 1)) 0 0 7 else M6 c) = putC M k (cpC (cX M q) (cX M k)) := by
  subst hM
  funext c j
  by_cases hc : c = k
  · subst hc
    have h : j = 0 ∨ j = 1 ∨ j = 2 ∨ j = 3 ∨ j = 4 ∨ j = 5 ∨ j = 6 ∨ 7 ≤ j := by omega
    rcases h with rfl | rfl | rfl | rfl | rfl | rfl | rfl | h
    all_goals first | (simp [mu, upd, putC, cpC, cX]; done) | skip
    simp [mu, upd, putC, show ¬ j = 0 by omega, show ¬ j < 7 by omega, show ¬ j = 1 by omega, show ¬ j = 2 by omega, show ¬ j = 3 by omega, show ¬ j = 4 by omega, show ¬ j = 5 by omega, show ¬ j = 6 by omega]
  · by_cases hc1 : c = k + 1
    · subst hc1
      by_cases h7 : j < 7
      · simp [mu, upd, putC, cpC, cX, va_cpy, h3, h7, show j + 6 < 13 by omega, show ¬ j + 6 < 6 by omega]
      · simp [mu, upd, putC, cpC, cX, va_cpy, h3, h7, show ¬ j + 6 < 13 by omega, show ¬ j + 6 < 6 by omega]
    · simp [mu, putC, hc, hc1]
theorem cs_X1_left_99 : CSV (xmN YX1_left).cls (xmF YX1_left) (xmW YX1_left) 99 1 YX1_fatFrom := ⟨⟨ml_X1_99, ini_X1, cd_X1_fatFrom, by decide +kernel, by decide⟩, im_X1_fatFrom, se_X1_fatFrom⟩
set_option maxRecDepth 100000 in
theorem c_X1_left {l : Launch} {g : XG} {M : Mem} {k : Nat} (hk : isO 1 k) (hR : okR (M 2)) : Call l g YX1_left [.ref (ad g k), .ref (ad g 1)] M (PI (fun v M' => v = sLeft (M 2) (cX M k) ∧ M' = M)) := by
  refine call_of (by decide +kernel) (Nat.le_of_ble_eq_true rfl) (fun x hxl F R => ?_)
  subst hxl
  obtain ⟨gr, hgr, hg3, hg6⟩ := okR_grain hR
  have hsg : sGrain (M 2) = gr := by rw [sGrain, hgr]; exact nI_clamp (by omega)
  refine ex_aload_n F dX1_left_0 rfl rfl ?_
  refine ex_iconst (v := 0) F dX1_left_1 (by decide) ?_
  refine ex_callVi F (c_X1_fatFrom hk (i0 := 0) rfl (by decide)) dX1_left_2 cs_X1_left_99 (ob_1 hk) rfl rfl rfl rfl (Nat.le_of_ble_eq_true rfl) (fun v2 M2 h2 => ?_)
  obtain ⟨rfl, q2⟩ := h2
  rw [q2]
  clear q2
  refine ex_aload_n F dX1_left_5 rfl rfl ?_
  refine ex_aload_n F dX1_left_6 rfl rfl ?_
  refine gf_6_0 (by decide) (q9 := 2) rfl F dX1_left_7 fl_X1_52 ?_
  refine ex_iconst (v := 5) F dX1_left_10 (by decide) ?_
  refine ex_iald (n := 9) F dX1_left_11 (by decide) (vpd (by decide)) (j := 5) (by decide) ?_
  refine ex_callVi F (c_X1_fatFrom hk hgr (by omega)) dX1_left_12 cs_X1_left_99 (ob_1 hk) rfl rfl rfl rfl (Nat.le_of_ble_eq_true rfl) (fun v12 M12 h12 => ?_)
  obtain ⟨rfl, q12⟩ := h12
  rw [q12]
  clear q12
  refine ex_isub F dX1_left_15 ?_
  exact ex_iret F R dX1_left_16 rfl (⟨by rw [sLeft, hsg], rfl⟩)
theorem cs_X1_isMostlyGreatest_99 : CSV (xmN YX1_isMostlyGreatest).cls (xmF YX1_isMostlyGreatest) (xmW YX1_isMostlyGreatest) 99 1 YX1_fatFrom := ⟨⟨ml_X1_99, ini_X1, cd_X1_fatFrom, by decide +kernel, by decide⟩, im_X1_fatFrom, se_X1_fatFrom⟩
set_option maxRecDepth 100000 in
theorem c_X1_isMostlyGreatest {l : Launch} {g : XG} {M : Mem} {k : Nat} (hk : isO 1 k) : Call l g YX1_isMostlyGreatest [.ref (ad g k)] M (PI (fun v M' => v = b2i (sMost (cX M k)) ∧ M' = M)) := by
  refine call_of (by decide +kernel) (Nat.le_of_ble_eq_true rfl) (fun x hxl F R => ?_)
  subst hxl
  refine ex_bipush (v := 10) F dX1_isMostlyGreatest_0 (by decide) ?_
  refine ex_aload_n F dX1_isMostlyGreatest_2 rfl rfl ?_
  refine ex_bipush (v := 6) F dX1_isMostlyGreatest_3 (by decide) ?_
  refine ex_callVi F (c_X1_fatFrom hk (i0 := 6) rfl (by decide)) dX1_isMostlyGreatest_5 cs_X1_isMostlyGreatest_99 (ob_1 hk) rfl rfl rfl rfl (Nat.le_of_ble_eq_true rfl) (fun v5 M5 h5 => ?_)
  obtain ⟨rfl, q5⟩ := h5
  rw [q5]
  clear q5
  refine ex_imul F dX1_isMostlyGreatest_8 ?_
  refine ex_bipush (v := 9) F dX1_isMostlyGreatest_9 (by decide) ?_
  refine ex_aload_n F dX1_isMostlyGreatest_11 rfl rfl ?_
  refine ex_iconst (v := 0) F dX1_isMostlyGreatest_12 (by decide) ?_
  refine ex_callVi F (c_X1_fatFrom hk (i0 := 0) rfl (by decide)) dX1_isMostlyGreatest_13 cs_X1_isMostlyGreatest_99 (ob_1 hk) rfl rfl rfl rfl (Nat.le_of_ble_eq_true rfl) (fun v13 M13 h13 => ?_)
  obtain ⟨rfl, q13⟩ := h13
  rw [q13]
  clear q13
  refine ex_imul F dX1_isMostlyGreatest_16 ?_
  refine ex_icmp_lt (t := 24) F dX1_isMostlyGreatest_17 (by decide) (fun c17 => ?_) (fun c17 => ?_)
  · refine ex_iconst (v := 0) F dX1_isMostlyGreatest_24 (by decide) ?_
    exact ex_zret (ty := .boolean) F R dX1_isMostlyGreatest_25 rfl (rfl) (⟨by simp [sMost, b2i, lt_nle, -Int32.not_le, -Int32.not_lt] at c17 ⊢; simp [c17], rfl⟩)
  · refine ex_iconst (v := 1) F dX1_isMostlyGreatest_20 (by decide) ?_
    refine ex_goto (t := 25) F dX1_isMostlyGreatest_21 (by decide) ?_
    exact ex_zret (ty := .boolean) F R dX1_isMostlyGreatest_25 rfl (rfl) (⟨by simp [sMost, b2i, lt_nle, -Int32.not_le, -Int32.not_lt] at c17 ⊢; simp [c17], rfl⟩)
set_option maxRecDepth 100000 in
theorem c_X1_dropsOf {l : Launch} {g : XG} {M : Mem} {k : Nat} (hk : isO 1 k) {v0 : Int32} : Call l g YX1_dropsOf [.ref (ad g k), .int v0] M (PI (fun v M' => v = sDropC (cX M k) v0 ∧ M' = M)) := by
  refine call_of (by decide +kernel) (Nat.le_of_ble_eq_true rfl) (fun x hxl F R => ?_)
  subst hxl
  refine ex_iload_n F dX1_dropsOf_0 rfl rfl ?_
  refine ex_if_lt (t := 22) F dX1_dropsOf_1 (by decide) (fun c1 => ?_) (fun c1 => ?_)
  · refine ex_iconst (v := -1) F dX1_dropsOf_22 (by decide) ?_
    exact ex_iret F R dX1_dropsOf_23 rfl (⟨by rw [sDropC, if_pos c1], rfl⟩)
  · refine ex_iload_n F dX1_dropsOf_4 rfl rfl ?_
    refine ex_aload_n F dX1_dropsOf_5 rfl rfl ?_
    refine gf_1_0 hk (q9 := (k + 1)) rfl F dX1_dropsOf_6 fl_X1_11 ?_
    refine ex_ilen (n := 7) (v := 7) F dX1_dropsOf_9 (tI_1_0 hk) (by decide) ?_
    refine ex_icmp_ge (t := 22) F dX1_dropsOf_10 (by decide) (fun c10 => ?_) (fun c10 => ?_)
    · refine ex_iconst (v := -1) F dX1_dropsOf_22 (by decide) ?_
      exact ex_iret F R dX1_dropsOf_23 rfl (⟨by rw [sDropC, if_neg c1, if_pos c10], rfl⟩)
    · refine ex_aload_n F dX1_dropsOf_13 rfl rfl ?_
      refine gf_1_0 hk (q9 := (k + 1)) rfl F dX1_dropsOf_14 fl_X1_11 ?_
      refine ex_iload_n F dX1_dropsOf_17 rfl rfl ?_
      refine ex_iald (n := 7) F dX1_dropsOf_18 (tI_1_0 hk) (vin (by decide) c1 c10) rfl ?_
      refine ex_goto (t := 23) F dX1_dropsOf_19 (by decide) ?_
      exact ex_iret F R dX1_dropsOf_23 rfl (⟨by rw [sDropC, if_neg c1, if_neg c10]; simp [cX, show ¬ v0.toNatClampNeg + 6 < 6 by omega], rfl⟩)
theorem cs_X1_outcome_75 : CSV (xmN YX1_outcome).cls (xmF YX1_outcome) (xmW YX1_outcome) 75 1 YX1_isSwollen := ⟨⟨ml_X1_75, ini_X1, cd_X1_isSwollen, by decide +kernel, by decide⟩, im_X1_isSwollen, se_X1_isSwollen⟩
theorem cs_X1_outcome_55 : CSV (xmN YX1_outcome).cls (xmF YX1_outcome) (xmW YX1_outcome) 55 0 YX1_hasCome := ⟨⟨ml_X1_55, ini_X1, cd_X1_hasCome, by decide +kernel, by decide⟩, im_X1_hasCome, se_X1_hasCome⟩
theorem cs_X1_outcome_95 : CSV (xmN YX1_outcome).cls (xmF YX1_outcome) (xmW YX1_outcome) 95 1 YX1_hardness := ⟨⟨ml_X1_95, ini_X1, cd_X1_hardness, by decide +kernel, by decide⟩, im_X1_hardness, se_X1_hardness⟩
theorem cs_X1_outcome_108 : CSV (xmN YX1_outcome).cls (xmF YX1_outcome) (xmW YX1_outcome) 108 0 YX1_isMostlyGreatest := ⟨⟨ml_X1_108, ini_X1, cd_X1_isMostlyGreatest, by decide +kernel, by decide⟩, im_X1_isMostlyGreatest, se_X1_isMostlyGreatest⟩
theorem cs_X1_outcome_102 : CSV (xmN YX1_outcome).cls (xmF YX1_outcome) (xmW YX1_outcome) 102 1 YX1_left := ⟨⟨ml_X1_102, ini_X1, cd_X1_left, by decide +kernel, by decide⟩, im_X1_left, se_X1_left⟩
theorem cs_X1_outcome_99 : CSV (xmN YX1_outcome).cls (xmF YX1_outcome) (xmW YX1_outcome) 99 1 YX1_fatFrom := ⟨⟨ml_X1_99, ini_X1, cd_X1_fatFrom, by decide +kernel, by decide⟩, im_X1_fatFrom, se_X1_fatFrom⟩
set_option maxRecDepth 100000 in
theorem c_X1_outcome {l : Launch} {g : XG} {M : Mem} {k : Nat} (hk : isO 1 k) (hR : okR (M 2)) : Call l g YX1_outcome [.ref (ad g k), .ref (ad g 1)] M (PI (fun v M' => v = sOut (M 2) (cX M k) ∧ M' = M)) := by
  refine call_of (by decide +kernel) (Nat.le_of_ble_eq_true rfl) (fun x hxl F R => ?_)
  subst hxl
  refine ex_aload_n F dX1_outcome_0 rfl rfl ?_
  refine ex_aload_n F dX1_outcome_1 rfl rfl ?_
  refine ex_callVi F (c_X1_isSwollen hk) dX1_outcome_2 cs_X1_outcome_75 (ob_1 hk) rfl rfl rfl rfl (Nat.le_of_ble_eq_true rfl) (fun v2 M2 h2 => ?_)
  obtain ⟨rfl, q2⟩ := h2
  rw [q2]
  clear q2
  refine ex_if_eq (t := 10) F dX1_outcome_5 (by decide) (fun c5 => ?_) (fun c5 => ?_)
  · refine ex_aload_n F dX1_outcome_10 rfl rfl ?_
    refine ex_callVi F (c_X1_hasCome hk) dX1_outcome_11 cs_X1_outcome_55 (ob_1 hk) rfl rfl rfl rfl (Nat.le_of_ble_eq_true rfl) (fun v11 M11 h11 => ?_)
    obtain ⟨rfl, q11⟩ := h11
    rw [q11]
    clear q11
    refine ex_if_ne (t := 19) F dX1_outcome_14 (by decide) (fun c14 => ?_) (fun c14 => ?_)
    · refine ex_aload_n F dX1_outcome_19 rfl rfl ?_
      refine ex_aload_n F dX1_outcome_20 rfl rfl ?_
      refine ex_callVi F (c_X1_hardness hk) dX1_outcome_21 cs_X1_outcome_95 (ob_1 hk) rfl rfl rfl rfl (Nat.le_of_ble_eq_true rfl) (fun v21 M21 h21 => ?_)
      obtain ⟨rfl, q21⟩ := h21
      rw [q21]
      clear q21
      refine ex_aload_n F dX1_outcome_24 rfl rfl ?_
      refine gf_6_0 (by decide) (q9 := 2) rfl F dX1_outcome_25 fl_X1_52 ?_
      refine ex_bipush (v := 7) F dX1_outcome_28 (by decide) ?_
      refine ex_iald (n := 9) F dX1_outcome_30 (by decide) (vpd (by decide)) (j := 7) (by decide) ?_
      refine ex_icmp_ge (t := 36) F dX1_outcome_31 (by decide) (fun c31 => ?_) (fun c31 => ?_)
      · refine ex_aload_n F dX1_outcome_36 rfl rfl ?_
        refine ex_callVi F (c_X1_isMostlyGreatest hk) dX1_outcome_37 cs_X1_outcome_108 (ob_1 hk) rfl rfl rfl rfl (Nat.le_of_ble_eq_true rfl) (fun v37 M37 h37 => ?_)
        obtain ⟨rfl, q37⟩ := h37
        rw [q37]
        clear q37
        refine ex_if_eq (t := 45) F dX1_outcome_40 (by decide) (fun c40 => ?_) (fun c40 => ?_)
        · refine ex_bipush (v := 10) F dX1_outcome_45 (by decide) ?_
          refine ex_aload_n F dX1_outcome_47 rfl rfl ?_
          refine ex_aload_n F dX1_outcome_48 rfl rfl ?_
          refine ex_callVi F (c_X1_left hk hR) dX1_outcome_49 cs_X1_outcome_102 (ob_1 hk) rfl rfl rfl rfl (Nat.le_of_ble_eq_true rfl) (fun v49 M49 h49 => ?_)
          obtain ⟨rfl, q49⟩ := h49
          rw [q49]
          clear q49
          refine ex_imul F dX1_outcome_52 ?_
          refine ex_aload_n F dX1_outcome_53 rfl rfl ?_
          refine ex_iconst (v := 0) F dX1_outcome_54 (by decide) ?_
          refine ex_callVi F (c_X1_fatFrom hk (i0 := 0) rfl (by decide)) dX1_outcome_55 cs_X1_outcome_99 (ob_1 hk) rfl rfl rfl rfl (Nat.le_of_ble_eq_true rfl) (fun v55 M55 h55 => ?_)
          obtain ⟨rfl, q55⟩ := h55
          rw [q55]
          clear q55
          refine ex_icmp_le (t := 65) F dX1_outcome_58 (by decide) (fun c58 => ?_) (fun c58 => ?_)
          · refine ex_iconst (v := 1) F dX1_outcome_65 (by decide) ?_
            exact ex_iret F R dX1_outcome_66 rfl (⟨by simp [sOut, b2i_0.mp c5, b2i_1.mp c14, c31, b2i_0.mp c40, c58, lt_nle, -Int32.not_le, -Int32.not_lt], rfl⟩)
          · refine ex_iconst (v := 4) F dX1_outcome_61 (by decide) ?_
            refine ex_goto (t := 66) F dX1_outcome_62 (by decide) ?_
            exact ex_iret F R dX1_outcome_66 rfl (⟨by simp [sOut, b2i_0.mp c5, b2i_1.mp c14, c31, b2i_0.mp c40, c58, lt_nle, -Int32.not_le, -Int32.not_lt], rfl⟩)
        · refine ex_iconst (v := 5) F dX1_outcome_43 (by decide) ?_
          exact ex_iret F R dX1_outcome_44 rfl (⟨by simp [sOut, b2i_0.mp c5, b2i_1.mp c14, c31, b2i_1.mp c40, lt_nle, -Int32.not_le, -Int32.not_lt], rfl⟩)
      · refine ex_iconst (v := 3) F dX1_outcome_34 (by decide) ?_
        exact ex_iret F R dX1_outcome_35 rfl (⟨by simp [sOut, b2i_0.mp c5, b2i_1.mp c14, c31, lt_nle, -Int32.not_le, -Int32.not_lt], rfl⟩)
    · refine ex_iconst (v := 0) F dX1_outcome_17 (by decide) ?_
      exact ex_iret F R dX1_outcome_18 rfl (⟨by simp [sOut, b2i_0.mp c5, b2i_0.mp c14, lt_nle, -Int32.not_le, -Int32.not_lt], rfl⟩)
  · refine ex_iconst (v := 2) F dX1_outcome_8 (by decide) ?_
    exact ex_iret F R dX1_outcome_9 rfl (⟨by simp [sOut, b2i_1.mp c5, lt_nle, -Int32.not_le, -Int32.not_lt], rfl⟩)
theorem cs_X1_tell_95 : CSV (xmN YX1_tell).cls (xmF YX1_tell) (xmW YX1_tell) 95 1 YX1_hardness := ⟨⟨ml_X1_95, ini_X1, cd_X1_hardness, by decide +kernel, by decide⟩, im_X1_hardness, se_X1_hardness⟩
theorem cs_X1_tell_102 : CSV (xmN YX1_tell).cls (xmF YX1_tell) (xmW YX1_tell) 102 1 YX1_left := ⟨⟨ml_X1_102, ini_X1, cd_X1_left, by decide +kernel, by decide⟩, im_X1_left, se_X1_left⟩
theorem cs_X1_tell_99 : CSV (xmN YX1_tell).cls (xmF YX1_tell) (xmW YX1_tell) 99 1 YX1_fatFrom := ⟨⟨ml_X1_99, ini_X1, cd_X1_fatFrom, by decide +kernel, by decide⟩, im_X1_fatFrom, se_X1_fatFrom⟩
theorem cs_X1_tell_75 : CSV (xmN YX1_tell).cls (xmF YX1_tell) (xmW YX1_tell) 75 1 YX1_isSwollen := ⟨⟨ml_X1_75, ini_X1, cd_X1_isSwollen, by decide +kernel, by decide⟩, im_X1_isSwollen, se_X1_isSwollen⟩
theorem cs_X1_tell_105 : CSV (xmN YX1_tell).cls (xmF YX1_tell) (xmW YX1_tell) 105 1 YX1_outcome := ⟨⟨ml_X1_105, ini_X1, cd_X1_outcome, by decide +kernel, by decide⟩, im_X1_outcome, se_X1_outcome⟩
set_option maxRecDepth 100000 in
theorem c_X1_tell {l : Launch} {g : XG} {M : Mem} {k : Nat} (hk : isO 1 k) (hR : okR (M 2)) {w0 : Int32} : Call l g YX1_tell [.ref (ad g k), .ref (ad g 1), .int w0] M (PI (fun v M' => v = sTell (M 2) (cX M k) w0 ∧ M' = M)) := by
  refine call_of (by decide +kernel) (Nat.le_of_ble_eq_true rfl) (fun x hxl F R => ?_)
  subst hxl
  refine ex_iload_n F dX1_tell_0 rfl rfl ?_
  by_cases w1_0 : w0 = 0
  · rw [w1_0]
    refine ex_tswIn (t := 56) F dX1_tell_1 (by decide) (by decide) rfl (by decide) ?_
    refine ex_aload_n F dX1_tell_56 rfl rfl ?_
    refine gf_1_1 hk F dX1_tell_57 fl_X1_25 ?_
    exact ex_iret F R dX1_tell_60 rfl (⟨by rw [w1_0]; simp [sTell, cX], rfl⟩)
  by_cases w1_1 : w0 = 1
  · rw [w1_1]
    refine ex_tswIn (t := 61) F dX1_tell_1 (by decide) (by decide) rfl (by decide) ?_
    refine ex_aload_n F dX1_tell_61 rfl rfl ?_
    refine gf_1_2 hk F dX1_tell_62 fl_X1_34 ?_
    exact ex_iret F R dX1_tell_65 rfl (⟨by rw [w1_1]; simp [sTell, cX], rfl⟩)
  by_cases w1_2 : w0 = 2
  · rw [w1_2]
    refine ex_tswIn (t := 66) F dX1_tell_1 (by decide) (by decide) rfl (by decide) ?_
    refine ex_aload_n F dX1_tell_66 rfl rfl ?_
    refine ex_aload_n F dX1_tell_67 rfl rfl ?_
    refine ex_callVi F (c_X1_hardness hk) dX1_tell_68 cs_X1_tell_95 (ob_1 hk) rfl rfl rfl rfl (Nat.le_of_ble_eq_true rfl) (fun v68 M68 h68 => ?_)
    obtain ⟨rfl, q68⟩ := h68
    rw [q68]
    clear q68
    exact ex_iret F R dX1_tell_71 rfl (⟨by rw [w1_2]; simp [sTell, cX], rfl⟩)
  by_cases w1_3 : w0 = 3
  · rw [w1_3]
    refine ex_tswIn (t := 72) F dX1_tell_1 (by decide) (by decide) rfl (by decide) ?_
    refine ex_aload_n F dX1_tell_72 rfl rfl ?_
    refine gf_1_4 hk F dX1_tell_73 fl_X1_37 ?_
    exact ex_iret F R dX1_tell_76 rfl (⟨by rw [w1_3]; simp [sTell, cX], rfl⟩)
  by_cases w1_4 : w0 = 4
  · rw [w1_4]
    refine ex_tswIn (t := 77) F dX1_tell_1 (by decide) (by decide) rfl (by decide) ?_
    refine ex_aload_n F dX1_tell_77 rfl rfl ?_
    refine gf_1_5 hk F dX1_tell_78 fl_X1_40 ?_
    exact ex_iret F R dX1_tell_81 rfl (⟨by rw [w1_4]; simp [sTell, cX], rfl⟩)
  by_cases w1_5 : w0 = 5
  · rw [w1_5]
    refine ex_tswIn (t := 82) F dX1_tell_1 (by decide) (by decide) rfl (by decide) ?_
    refine ex_aload_n F dX1_tell_82 rfl rfl ?_
    refine gf_1_6 hk F dX1_tell_83 fl_X1_15 ?_
    exact ex_iret F R dX1_tell_86 rfl (⟨by rw [w1_5]; simp [sTell, cX], rfl⟩)
  by_cases w1_6 : w0 = 6
  · rw [w1_6]
    refine ex_tswIn (t := 87) F dX1_tell_1 (by decide) (by decide) rfl (by decide) ?_
    refine ex_aload_n F dX1_tell_87 rfl rfl ?_
    refine ex_aload_n F dX1_tell_88 rfl rfl ?_
    refine ex_callVi F (c_X1_left hk hR) dX1_tell_89 cs_X1_tell_102 (ob_1 hk) rfl rfl rfl rfl (Nat.le_of_ble_eq_true rfl) (fun v89 M89 h89 => ?_)
    obtain ⟨rfl, q89⟩ := h89
    rw [q89]
    clear q89
    exact ex_iret F R dX1_tell_92 rfl (⟨by rw [w1_6]; simp [sTell], rfl⟩)
  by_cases w1_7 : w0 = 7
  · rw [w1_7]
    refine ex_tswIn (t := 93) F dX1_tell_1 (by decide) (by decide) rfl (by decide) ?_
    refine ex_aload_n F dX1_tell_93 rfl rfl ?_
    refine ex_iconst (v := 0) F dX1_tell_94 (by decide) ?_
    refine ex_callVi F (c_X1_fatFrom hk (i0 := 0) rfl (by decide)) dX1_tell_95 cs_X1_tell_99 (ob_1 hk) rfl rfl rfl rfl (Nat.le_of_ble_eq_true rfl) (fun v95 M95 h95 => ?_)
    obtain ⟨rfl, q95⟩ := h95
    rw [q95]
    clear q95
    exact ex_iret F R dX1_tell_98 rfl (⟨by rw [w1_7]; simp [sTell], rfl⟩)
  by_cases w1_8 : w0 = 8
  · rw [w1_8]
    refine ex_tswIn (t := 99) F dX1_tell_1 (by decide) (by decide) rfl (by decide) ?_
    refine ex_aload_n F dX1_tell_99 rfl rfl ?_
    refine ex_aload_n F dX1_tell_100 rfl rfl ?_
    refine ex_callVi F (c_X1_isSwollen hk) dX1_tell_101 cs_X1_tell_75 (ob_1 hk) rfl rfl rfl rfl (Nat.le_of_ble_eq_true rfl) (fun v101 M101 h101 => ?_)
    obtain ⟨rfl, q101⟩ := h101
    rw [q101]
    clear q101
    refine ex_if_eq (t := 111) F dX1_tell_104 (by decide) (fun c104 => ?_) (fun c104 => ?_)
    · refine ex_iconst (v := 0) F dX1_tell_111 (by decide) ?_
      exact ex_iret F R dX1_tell_112 rfl (⟨by rw [w1_8]; simp [sTell, b2i_0.mp c104]; rfl, rfl⟩)
    · refine ex_iconst (v := 1) F dX1_tell_107 (by decide) ?_
      refine ex_goto (t := 112) F dX1_tell_108 (by decide) ?_
      exact ex_iret F R dX1_tell_112 rfl (⟨by rw [w1_8]; simp [sTell, b2i_1.mp c104]; rfl, rfl⟩)
  by_cases w1_9 : w0 = 9
  · rw [w1_9]
    refine ex_tswIn (t := 113) F dX1_tell_1 (by decide) (by decide) rfl (by decide) ?_
    refine ex_aload_n F dX1_tell_113 rfl rfl ?_
    refine ex_aload_n F dX1_tell_114 rfl rfl ?_
    refine ex_callVi F (c_X1_outcome hk hR) dX1_tell_115 cs_X1_tell_105 (ob_1 hk) rfl rfl rfl rfl (Nat.le_of_ble_eq_true rfl) (fun v115 M115 h115 => ?_)
    obtain ⟨rfl, q115⟩ := h115
    rw [q115]
    clear q115
    exact ex_iret F R dX1_tell_118 rfl (⟨by rw [w1_9]; simp [sTell], rfl⟩)
  refine ex_tswOut (t := 119) F dX1_tell_1 (tsw_out 9 (by decide) (fun k hk => match k, hk with | 0, _ => w1_0 | 1, _ => w1_1 | 2, _ => w1_2 | 3, _ => w1_3 | 4, _ => w1_4 | 5, _ => w1_5 | 6, _ => w1_6 | 7, _ => w1_7 | 8, _ => w1_8 | 9, _ => w1_9 | n + 10, h => absurd h (by omega))) (by decide) ?_
  refine ex_iconst (v := -1) F dX1_tell_119 (by decide) ?_
  exact ex_iret F R dX1_tell_120 rfl (⟨by simp [sTell, w1_0, w1_1, w1_2, w1_3, w1_4, w1_5, w1_6, w1_7, w1_8, w1_9], rfl⟩)
set_option maxRecDepth 100000 in
theorem c_X1_halve {l : Launch} {g : XG} {M : Mem} {k : Nat} (hk : isO 1 k) : Call l g YX1_halve [.ref (ad g k)] M (PV (fun M' => M' = putC M k (sHalfN 7 (cX M k)))) := by
  refine call_of (by decide +kernel) (Nat.le_of_ble_eq_true rfl) (fun x hxl F R => ?_)
  subst hxl
  refine ex_aload_n F dX1_halve_0 rfl rfl ?_
  refine ex_dup F dX1_halve_1 rfl ?_
  refine gf_1_1 hk F dX1_halve_2 fl_X1_25 ?_
  refine ex_iconst (v := 2) F dX1_halve_5 (by decide) ?_
  refine ex_idiv F dX1_halve_6 (by decide) ?_
  refine pf_1_1 hk F dX1_halve_7 fl_X1_25 ?_
  refine ex_aload_n F dX1_halve_10 rfl rfl ?_
  refine ex_dup F dX1_halve_11 rfl ?_
  refine gf_1_4 hk F dX1_halve_12 fl_X1_37 ?_
  refine ex_iconst (v := 2) F dX1_halve_15 (by decide) ?_
  refine ex_idiv F dX1_halve_16 (by decide) ?_
  refine pf_1_4 hk F dX1_halve_17 fl_X1_37 ?_
  refine ex_iconst (v := 0) F dX1_halve_20 (by decide) ?_
  refine ex_istore_n F dX1_halve_21 rfl (by decide) ?_
  have key : ∀ (m i : Nat) (v : Int32), i + m = 7 → v = nI i → EX x g (xmL YX1_halve) (putC M k (sHalfN i (cX M k))) 22 [(0, .ref (ad g k)), (1, .int v)] [] := by
    intro m
    induction m with
    | zero =>
      intro i v hi hv
      obtain rfl : i = 7 := by omega
      subst hv
      refine ex_iload_n F dX1_halve_22 rfl rfl ?_
      refine ex_aload_n F dX1_halve_23 rfl rfl ?_
      refine gf_1_0 hk (q9 := (k + 1)) rfl F dX1_halve_24 fl_X1_11 ?_
      refine ex_ilen (n := 7) (v := 7) F dX1_halve_27 (tI_1_0 hk) (by decide) ?_
      refine ex_icmp_ge (t := 47) F dX1_halve_28 (by decide) (fun _ => ?_) (fun c => absurd (by decide) c)
      exact ex_vret F R dX1_halve_47 rfl (rfl)
    | succ m ih =>
      intro i v hi hv
      subst hv
      refine ex_iload_n F dX1_halve_22 rfl rfl ?_
      refine ex_aload_n F dX1_halve_23 rfl rfl ?_
      refine gf_1_0 hk (q9 := (k + 1)) rfl F dX1_halve_24 fl_X1_11 ?_
      refine ex_ilen (n := 7) (v := 7) F dX1_halve_27 (tI_1_0 hk) (by decide) ?_
      refine ex_icmp_ge (t := 47) F dX1_halve_28 (by decide) (fun c => absurd c (nI_ge (b := 7) (by omega) (by decide))) (fun _ => ?_)
      refine ex_aload_n F dX1_halve_31 rfl rfl ?_
      refine gf_1_0 hk (q9 := (k + 1)) rfl F dX1_halve_32 fl_X1_11 ?_
      refine ex_iload_n F dX1_halve_35 rfl rfl ?_
      refine ex_dup2 F dX1_halve_36 rfl rfl ?_
      refine ex_iald (n := 7) F dX1_halve_37 (tI_1_0 hk) (vp_in_nI (by omega) (by decide)) (j := i) (nI_clamp (by omega)) ?_
      refine ex_iconst (v := 2) F dX1_halve_38 (by decide) ?_
      refine ex_idiv F dX1_halve_39 (by decide) ?_
      refine ex_iast (n := 7) F dX1_halve_40 (tI_1_0 hk) (vp_in_nI (by omega) (by decide)) (j := i) (nI_clamp (by omega)) ?_
      refine ex_iinc (w := _ + 1) F dX1_halve_41 rfl rfl (by decide) ?_
      refine ex_goto (t := 22) F dX1_halve_44 (by decide) ?_
      refine ex_weak2 (L1 := [(0, .ref (ad g k)), (1, .int (nI i + 1))]) ?_ ⟨rfl, rfl, trivial⟩
      refine ex_M (M1 := putC M k (sHalfN (i + 1) (cX M k))) ?_ (ih (i + 1) _ (by omega) (nI_1 i))
      rw [mu_cd, putC_putC, cX_putC, rd_d, halfS]
  refine ex_M (M1 := putC M k (sHalfN 0 (cX M k))) ?_ (ex_weak2 (key 7 0 _ (by omega) rfl) ⟨rfl, rfl, trivial⟩)
  rw [← half0]
  simp [mu_c1, mu_c2, mu_c3, mu_c4, mu_c5, mu_c6, mu_cd, putC_putC, cX_putC, putC_cX, rd_1, rd_2, rd_3, rd_4, rd_5, rd_6, rd_d, mu_j, upd, cX]
set_option maxRecDepth 100000 in
theorem c_X1_becomeLike {l : Launch} {g : XG} {M : Mem} {k q : Nat} (hk : isO 1 k) (hq : isO 1 q) (hne : q ≠ k) : Call l g YX1_becomeLike [.ref (ad g k), .ref (ad g q)] M (PV (fun M' => M' = putC M k (cpC (cX M q) (cX M k)))) := by
  refine call_of (by decide +kernel) (Nat.le_of_ble_eq_true rfl) (fun x hxl F R => ?_)
  subst hxl
  have h2 : q ≠ k + 1 := by rcases kk_1 hk with rfl | rfl | rfl | rfl <;> rcases kk_1 hq with rfl | rfl | rfl | rfl <;> omega
  have h3 : q + 1 ≠ k := by rcases kk_1 hk with rfl | rfl | rfl | rfl <;> rcases kk_1 hq with rfl | rfl | rfl | rfl <;> omega
  refine ex_aload_n F dX1_becomeLike_0 rfl rfl ?_
  refine ex_aload_n F dX1_becomeLike_1 rfl rfl ?_
  refine gf_1_1 hq F dX1_becomeLike_2 fl_X1_25 ?_
  refine pf_1_1 hk F dX1_becomeLike_5 fl_X1_25 ?_
  refine ex_aload_n F dX1_becomeLike_8 rfl rfl ?_
  refine ex_aload_n F dX1_becomeLike_9 rfl rfl ?_
  refine gf_1_2 hq F dX1_becomeLike_10 fl_X1_34 ?_
  refine pf_1_2 hk F dX1_becomeLike_13 fl_X1_34 ?_
  refine ex_aload_n F dX1_becomeLike_16 rfl rfl ?_
  refine ex_aload_n F dX1_becomeLike_17 rfl rfl ?_
  refine gf_1_3 hq F dX1_becomeLike_18 fl_X1_31 ?_
  refine pf_1_3 hk F dX1_becomeLike_21 fl_X1_31 ?_
  refine ex_aload_n F dX1_becomeLike_24 rfl rfl ?_
  refine ex_aload_n F dX1_becomeLike_25 rfl rfl ?_
  refine gf_1_4 hq F dX1_becomeLike_26 fl_X1_37 ?_
  refine pf_1_4 hk F dX1_becomeLike_29 fl_X1_37 ?_
  refine ex_aload_n F dX1_becomeLike_32 rfl rfl ?_
  refine ex_aload_n F dX1_becomeLike_33 rfl rfl ?_
  refine gf_1_5 hq F dX1_becomeLike_34 fl_X1_40 ?_
  refine pf_1_5 hk F dX1_becomeLike_37 fl_X1_40 ?_
  refine ex_aload_n F dX1_becomeLike_40 rfl rfl ?_
  refine ex_aload_n F dX1_becomeLike_41 rfl rfl ?_
  refine gf_1_6 hq F dX1_becomeLike_42 fl_X1_15 ?_
  refine pf_1_6 hk F dX1_becomeLike_45 fl_X1_15 ?_
  refine ex_aload_n F dX1_becomeLike_48 rfl rfl ?_
  refine gf_1_0 hq (q9 := (q + 1)) rfl F dX1_becomeLike_49 fl_X1_11 ?_
  refine ex_iconst (v := 0) F dX1_becomeLike_52 (by decide) ?_
  refine ex_aload_n F dX1_becomeLike_53 rfl rfl ?_
  refine gf_1_0 hk (q9 := (k + 1)) rfl F dX1_becomeLike_54 fl_X1_11 ?_
  refine ex_iconst (v := 0) F dX1_becomeLike_57 (by decide) ?_
  refine ex_aload_n F dX1_becomeLike_58 rfl rfl ?_
  refine gf_1_0 hk (q9 := (k + 1)) rfl F dX1_becomeLike_59 fl_X1_11 ?_
  refine ex_ilen (n := 7) (v := 7) F dX1_becomeLike_62 (tI_1_0 hk) (by decide) ?_
  refine ex_copyi F dX1_becomeLike_63 ml_X1_46 na_copy st_copy ini_sys (tI_1_0 hq) (tI_1_0 hk) (by decide) (by decide) (by decide) (by decide) (by decide) (by decide) (Nat.le_of_ble_eq_true rfl) ?_
  exact ex_vret F R dX1_becomeLike_66 rfl (like_eq M k q hne h2 h3 _ (by simp [mu_k, hne]))
theorem cs_X1_fillWith_19 : CSV (xmN YX1_fillWith).cls (xmF YX1_fillWith) (xmW YX1_fillWith) 19 1 YX6_litresOf := ⟨⟨ml_X1_19, ini_X6, cd_X6_litresOf, by decide +kernel, by decide⟩, im_X6_litresOf, se_X6_litresOf⟩
theorem cs_X1_fillWith_28 : CSV (xmN YX1_fillWith).cls (xmF YX1_fillWith) (xmW YX1_fillWith) 28 1 YX6_hardOf := ⟨⟨ml_X1_28, ini_X6, cd_X6_hardOf, by decide +kernel, by decide⟩, im_X6_hardOf, se_X6_hardOf⟩
set_option maxRecDepth 100000 in
theorem c_X1_fillWith {l : Launch} {g : XG} {M : Mem} {k : Nat} (hk : isO 1 k) {b w0 : Int32} : Call l g YX1_fillWith [.ref (ad g k), .ref (ad g 1), .int b, .int w0] M (PV (fun M' => M' = putC M k (sFillN 7 (sLitN (M 4) b 8) (sHardOf (M 4) (M 5) b) w0 (M 3) (cX M k)))) := by
  refine call_of (by decide +kernel) (Nat.le_of_ble_eq_true rfl) (fun x hxl F R => ?_)
  subst hxl
  have k4 : 4 ≠ k := by rcases kk_1 hk with rfl | rfl | rfl | rfl <;> omega
  have k5 : 5 ≠ k := by rcases kk_1 hk with rfl | rfl | rfl | rfl <;> omega
  refine ex_aload_n F dX1_fillWith_0 rfl rfl ?_
  refine ex_aload_n F dX1_fillWith_1 rfl rfl ?_
  refine ex_iload_n F dX1_fillWith_2 rfl rfl ?_
  refine ex_callVi F (c_X6_litresOf) dX1_fillWith_3 cs_X1_fillWith_19 (ob_6 (by decide)) rfl rfl rfl rfl (Nat.le_of_ble_eq_true rfl) (fun v3 M3 h3 => ?_)
  obtain ⟨rfl, q3⟩ := h3
  rw [q3]
  clear q3
  refine pf_1_1 hk F dX1_fillWith_6 fl_X1_25 ?_
  refine ex_aload_n F dX1_fillWith_9 rfl rfl ?_
  refine ex_aload_n F dX1_fillWith_10 rfl rfl ?_
  refine ex_iload_n F dX1_fillWith_11 rfl rfl ?_
  refine ex_callVi F (c_X6_hardOf) dX1_fillWith_12 cs_X1_fillWith_28 (ob_6 (by decide)) rfl rfl rfl rfl (Nat.le_of_ble_eq_true rfl) (fun v12 M12 h12 => ?_)
  obtain ⟨e12, q12⟩ := h12
  rw [q12]
  clear q12
  rw [mu_k _ _ _ _ _ k4, mu_k _ _ _ _ _ k5] at e12
  subst e12
  refine pf_1_3 hk F dX1_fillWith_15 fl_X1_31 ?_
  refine ex_aload_n F dX1_fillWith_18 rfl rfl ?_
  refine ex_iload_n F dX1_fillWith_19 rfl rfl ?_
  refine pf_1_2 hk F dX1_fillWith_20 fl_X1_34 ?_
  refine ex_aload_n F dX1_fillWith_23 rfl rfl ?_
  refine ex_iconst (v := 0) F dX1_fillWith_24 (by decide) ?_
  refine pf_1_4 hk F dX1_fillWith_25 fl_X1_37 ?_
  refine ex_aload_n F dX1_fillWith_28 rfl rfl ?_
  refine ex_iconst (v := 0) F dX1_fillWith_29 (by decide) ?_
  refine pf_1_5 hk F dX1_fillWith_30 fl_X1_40 ?_
  refine ex_aload_n F dX1_fillWith_33 rfl rfl ?_
  refine ex_bipush (v := -4) F dX1_fillWith_34 (by decide) ?_
  refine pf_1_6 hk F dX1_fillWith_36 fl_X1_15 ?_
  refine ex_iconst (v := 0) F dX1_fillWith_39 (by decide) ?_
  refine ex_istore F dX1_fillWith_40 (by decide) ?_
  have key : ∀ (m i : Nat) (v : Int32), i + m = 7 → v = nI i → EX x g (xmL YX1_fillWith) (putC M k (sFillN i (sLitN (M 4) b 8) (sHardOf (M 4) (M 5) b) w0 (M 3) (cX M k))) 42 [(0, .ref (ad g k)), (1, .ref (ad g 1)), (4, .int v)] [] := by
    intro m
    induction m with
    | zero =>
      intro i v hi hv
      obtain rfl : i = 7 := by omega
      subst hv
      refine ex_iload F dX1_fillWith_42 rfl ?_
      refine ex_aload_n F dX1_fillWith_44 rfl rfl ?_
      refine gf_1_0 hk (q9 := (k + 1)) rfl F dX1_fillWith_45 fl_X1_11 ?_
      refine ex_ilen (n := 7) (v := 7) F dX1_fillWith_48 (tI_1_0 hk) (by decide) ?_
      refine ex_icmp_ge (t := 91) F dX1_fillWith_49 (by decide) (fun _ => ?_) (fun c => absurd (by decide) c)
      exact ex_vret F R dX1_fillWith_91 rfl (rfl)
    | succ m ih =>
      intro i v hi hv
      subst hv
      refine ex_iload F dX1_fillWith_42 rfl ?_
      refine ex_aload_n F dX1_fillWith_44 rfl rfl ?_
      refine gf_1_0 hk (q9 := (k + 1)) rfl F dX1_fillWith_45 fl_X1_11 ?_
      refine ex_ilen (n := 7) (v := 7) F dX1_fillWith_48 (tI_1_0 hk) (by decide) ?_
      refine ex_icmp_ge (t := 91) F dX1_fillWith_49 (by decide) (fun c => absurd c (nI_ge (b := 7) (by omega) (by decide))) (fun _ => ?_)
      refine ex_aload_n F dX1_fillWith_52 rfl rfl ?_
      refine gf_1_0 hk (q9 := (k + 1)) rfl F dX1_fillWith_53 fl_X1_11 ?_
      refine ex_iload F dX1_fillWith_56 rfl ?_
      refine ex_iload F dX1_fillWith_58 rfl ?_
      refine ex_aload_n F dX1_fillWith_60 rfl rfl ?_
      refine gf_6_1 (by decide) (q9 := 3) rfl F dX1_fillWith_61 fl_X1_43 ?_
      refine ex_ilen (n := 4) (v := 4) F dX1_fillWith_64 (by decide) (by decide) ?_
      refine ex_icmp_ge (t := 83) F dX1_fillWith_65 (by decide) (fun c65 => ?_) (fun c65 => ?_)
      · refine ex_iconst (v := 0) F dX1_fillWith_83 (by decide) ?_
        refine ex_iast (n := 7) F dX1_fillWith_84 (tI_1_0 hk) (vp_in_nI (by omega) (by decide)) (j := i) (nI_clamp (by omega)) ?_
        refine ex_iinc (w := _ + 1) F dX1_fillWith_85 rfl rfl (by decide) ?_
        refine ex_goto (t := 42) F dX1_fillWith_88 (by decide) ?_
        refine ex_weak2 (L1 := [(0, .ref (ad g k)), (1, .ref (ad g 1)), (4, .int (nI i + 1))]) ?_ ⟨rfl, rfl, rfl, trivial⟩
        refine ex_M (M1 := putC M k (sFillN (i + 1) (sLitN (M 4) b 8) (sHardOf (M 4) (M 5) b) w0 (M 3) (cX M k))) ?_ (ih (i + 1) _ (by omega) (nI_1 i))
        have h4 : ¬ i < 4 := fun q => nI_ge (b := 4) q (by decide) c65
        rw [mu_cd, putC_putC, cX_putC, ← fillS, if_neg h4]
      · refine ex_aload_n F dX1_fillWith_68 rfl rfl ?_
        refine gf_1_1 hk F dX1_fillWith_69 fl_X1_25 ?_
        refine ex_aload_n F dX1_fillWith_72 rfl rfl ?_
        refine gf_6_1 (by decide) (q9 := 3) rfl F dX1_fillWith_73 fl_X1_43 ?_
        refine ex_iload F dX1_fillWith_76 rfl ?_
        refine ex_iald (n := 4) F dX1_fillWith_78 (by decide) (vp_in_nI (nI_ltof (b := 4) (by omega) c65) (by decide)) (j := i) (nI_clamp (by omega)) ?_
        refine ex_imul F dX1_fillWith_79 ?_
        refine ex_goto (t := 84) F dX1_fillWith_80 (by decide) ?_
        refine ex_iast (n := 7) F dX1_fillWith_84 (tI_1_0 hk) (vp_in_nI (by omega) (by decide)) (j := i) (nI_clamp (by omega)) ?_
        refine ex_iinc (w := _ + 1) F dX1_fillWith_85 rfl rfl (by decide) ?_
        refine ex_goto (t := 42) F dX1_fillWith_88 (by decide) ?_
        refine ex_weak2 (L1 := [(0, .ref (ad g k)), (1, .ref (ad g 1)), (4, .int (nI i + 1))]) ?_ ⟨rfl, rfl, rfl, trivial⟩
        refine ex_M (M1 := putC M k (sFillN (i + 1) (sLitN (M 4) b 8) (sHardOf (M 4) (M 5) b) w0 (M 3) (cX M k))) ?_ (ih (i + 1) _ (by omega) (nI_1 i))
        have h4 : i < 4 := nI_ltof (b := 4) (by omega) c65
        rw [rd_1, rd_lo hk 3 (by decide), mu_cd, putC_putC, cX_putC, ← fillS, if_pos h4]
        rfl
  refine ex_M (M1 := putC M k (sFillN 0 (sLitN (M 4) b 8) (sHardOf (M 4) (M 5) b) w0 (M 3) (cX M k))) ?_ (ex_weak2 (key 7 0 _ (by omega) rfl) ⟨rfl, rfl, rfl, trivial⟩)
  rw [← fill0]
  simp [mu_c1, mu_c2, mu_c3, mu_c4, mu_c5, mu_c6, mu_cd, putC_putC, cX_putC, putC_cX, rd_1, rd_2, rd_3, rd_4, rd_5, rd_6, rd_d]
end
section
def outB (v a b : Int32) : Bool := decide (v < a) || decide (b < v)
def badT (n p : Int32) : Bool := outB n 1 400 || outB p 1 9
def badR (n b w p : Int32) : Bool := !sHasCows n b || (outB w 0 400 || outB p 1 9)
def itT (r : Nat → Int32) (p : Int32) : Nat → (Nat → Int32) → Nat → Int32
  | 0, c => c
  | n + 1, c => sTurn r p (itT r p n c)
def sFalls (r : Nat → Int32) (p : Int32) (c : Nat → Int32) : Nat → Int32
  | 0 => 0
  | n + 1 => sFalls r p c n + b2i (!sSwell r (itT r p n c))
def zC (c : Nat → Int32) : Prop := ∀ j, 13 ≤ j → c j = 0
theorem zC_upd {c : Nat → Int32} (h : zC c) {j : Nat} (y : Int32) (hj : j < 13) : zC (upd c j y) := fun i hi => by rw [pk_un (show i ≠ j by omega)]; exact h i hi
theorem zC_air {r c : Nat → Int32} {p : Int32} (h : zC c) : zC (sAir r p c) := by
  unfold sAir
  split
  · exact h
  · exact zC_upd h _ (by decide)
theorem zC_J {c : Nat → Int32} {rate : Int32} {k : Nat} (h : zC c) (hk : k ≤ 5) : zC (sJ rate k c) := zC_upd (zC_upd h _ (by omega)) _ (by omega)
theorem zC_Jn {rate : Int32} : ∀ (n : Nat) (c : Nat → Int32), n ≤ 6 → zC c → zC (sJn rate n c) := by
  intro n
  induction n with
  | zero => intro c _ h; exact h
  | succ n ih => intro c hn h; exact ih _ (by omega) (zC_J h (by omega))
theorem zC_break {r c : Nat → Int32} (h : zC c) : zC (sBreak r c) := by
  unfold sBreak
  split
  · exact h
  · split
    · exact zC_upd (zC_upd h _ (by decide)) _ (by decide)
    · exact h
theorem zC_turn {r c : Nat → Int32} {p : Int32} (h : zC c) : zC (sTurn r p c) := by
  have h1 : zC (sTurn1 r p c) := by
    unfold sTurn1
    split
    · exact h
    · exact zC_break (zC_Jn _ _ (by decide) (zC_air h))
  unfold sTurn sTick
  split
  · exact zC_upd (zC_upd h1 _ (by decide)) _ (by decide)
  · exact zC_upd h1 _ (by decide)
theorem zC_it {r : Nat → Int32} {p : Int32} (n : Nat) {c : Nat → Int32} (h : zC c) : zC (itT r p n c) := by
  induction n with
  | zero => exact h
  | succ n ih => exact zC_turn ih
theorem zC_half {c : Nat → Int32} (h : zC c) : zC (sHalfN 7 c) := fun j hj => by
  unfold sHalfN
  rw [if_neg (by omega)]
  exact h j hj
def sFill (li ha w : Int32) (dr : Nat → Int32) : Nat → Int32 := sFillN 7 li ha w dr (fun _ => 0)
theorem fill_z {li ha w : Int32} {dr c : Nat → Int32} (h : zC c) : sFillN 7 li ha w dr c = sFill li ha w dr := by
  funext j
  unfold sFill sFillN
  by_cases hj : j < 13
  · simp [show j < 6 + 7 by omega]
  · simp [show ¬ j < 6 + 7 by omega, h j (by omega)]
theorem zC_fill (li ha w : Int32) (dr : Nat → Int32) : zC (sFill li ha w dr) := fun j hj => by
  unfold sFill sFillN
  simp [show ¬ j = 0 by omega, show ¬ j = 1 by omega, show ¬ j = 2 by omega, show ¬ j = 3 by omega, show ¬ j = 4 by omega, show ¬ j = 5 by omega, show ¬ j < 6 + 7 by omega]
theorem cpC_z {a b : Nat → Int32} (ha : zC a) (hb : zC b) : cpC a b = a := by
  funext j
  unfold cpC
  by_cases hj : j < 13
  · rw [if_pos hj]
  · rw [if_neg hj, hb j (by omega), ha j (by omega)]
/-- what may differ: trial, best, water -/
def jX (M M' : Mem) : Prop := (∀ c, c ≠ 16 → c ≠ 17 → c ≠ 18 → c ≠ 37 → M' c = M c) ∧ zC (cX M' 16)
theorem jX_rf {M : Mem} (h : zC (cX M 16)) : jX M M := ⟨fun _ _ _ _ _ => rfl, h⟩
theorem jX_put {M : Mem} {c : Nat → Int32} (h : zC c) : jX M (putC M 16 c) := ⟨fun q h1 h2 _ _ => rd_o h1 h2, by rw [cX_putC]; exact h⟩
theorem jX_trans {M M1 M2 : Mem} (h1 : jX M M1) (h2 : jX M1 M2) : jX M M2 := ⟨fun c a b d e => (h2.1 c a b d e).trans (h1.1 c a b d e), h2.2⟩
def sOverN (r : Nat → Int32) (p : Int32) (c : Nat → Int32) : Nat → Nat → Int32
  | 0, _ => -4
  | m + 1, i => if sMost (itT r p i c) = true then nI i else sOverN r p c m (i + 1)

set_option maxRecDepth 100000 in
theorem c_X7_outside {l : Launch} {g : XG} {M : Mem} {v0 a b : Int32} : Call l g YX7_outside [.int v0, .int a, .int b] M (PI (fun v M' => v = b2i (outB v0 a b) ∧ M' = M)) := by
  refine call_of (by decide +kernel) (Nat.le_of_ble_eq_true rfl) (fun x hxl F R => ?_)
  subst hxl
  refine ex_iload_n F dX7_outside_0 rfl rfl ?_
  refine ex_iload_n F dX7_outside_1 rfl rfl ?_
  refine ex_icmp_lt (t := 10) F dX7_outside_2 (by decide) (fun c2 => ?_) (fun c2 => ?_)
  · refine ex_iconst (v := 1) F dX7_outside_10 (by decide) ?_
    refine ex_goto (t := 15) F dX7_outside_11 (by decide) ?_
    exact ex_zret (ty := .boolean) F R dX7_outside_15 rfl (rfl) (⟨by simp [outB, b2i, c2, lt_nle, -Int32.not_le, -Int32.not_lt], rfl⟩)
  · refine ex_iload_n F dX7_outside_5 rfl rfl ?_
    refine ex_iload_n F dX7_outside_6 rfl rfl ?_
    refine ex_icmp_le (t := 14) F dX7_outside_7 (by decide) (fun c7 => ?_) (fun c7 => ?_)
    · refine ex_iconst (v := 0) F dX7_outside_14 (by decide) ?_
      exact ex_zret (ty := .boolean) F R dX7_outside_15 rfl (rfl) (⟨by simp [outB, b2i, c2, c7, lt_nle, -Int32.not_le, -Int32.not_lt], rfl⟩)
    · refine ex_iconst (v := 1) F dX7_outside_10 (by decide) ?_
      refine ex_goto (t := 15) F dX7_outside_11 (by decide) ?_
      exact ex_zret (ty := .boolean) F R dX7_outside_15 rfl (rfl) (⟨by simp [outB, b2i, c2, c7, lt_nle, -Int32.not_le, -Int32.not_lt], rfl⟩)
theorem cs_X7_isBadTurn_85 : CSS (xmN YX7_isBadTurn).cls (xmF YX7_isBadTurn) (xmW YX7_isBadTurn) 85 3 YX7_outside := ⟨⟨ml_X7_85, ini_X7, cd_X7_outside, by decide +kernel, by decide⟩, st_X7_outside⟩
set_option maxRecDepth 100000 in
theorem c_X7_isBadTurn {l : Launch} {g : XG} {M : Mem} {n p : Int32} : Call l g YX7_isBadTurn [.int n, .int p] M (PI (fun v M' => v = b2i (badT n p) ∧ M' = M)) := by
  refine call_of (by decide +kernel) (Nat.le_of_ble_eq_true rfl) (fun x hxl F R => ?_)
  subst hxl
  refine ex_iload_n F dX7_isBadTurn_0 rfl rfl ?_
  refine ex_iconst (v := 1) F dX7_isBadTurn_1 (by decide) ?_
  refine ex_sipush (v := 400) F dX7_isBadTurn_2 (by decide) ?_
  refine ex_callSi F (c_X7_outside) dX7_isBadTurn_5 cs_X7_isBadTurn_85 rfl rfl (Nat.le_of_ble_eq_true rfl) (fun v5 M5 h5 => ?_)
  obtain ⟨rfl, q5⟩ := h5
  rw [q5]
  clear q5
  refine ex_if_ne (t := 21) F dX7_isBadTurn_8 (by decide) (fun c8 => ?_) (fun c8 => ?_)
  · refine ex_iconst (v := 1) F dX7_isBadTurn_21 (by decide) ?_
    refine ex_goto (t := 26) F dX7_isBadTurn_22 (by decide) ?_
    exact ex_zret (ty := .boolean) F R dX7_isBadTurn_26 rfl (rfl) (⟨by simp [badT, b2i_1.mp c8]; rfl, rfl⟩)
  · refine ex_iload_n F dX7_isBadTurn_11 rfl rfl ?_
    refine ex_iconst (v := 1) F dX7_isBadTurn_12 (by decide) ?_
    refine ex_bipush (v := 9) F dX7_isBadTurn_13 (by decide) ?_
    refine ex_callSi F (c_X7_outside) dX7_isBadTurn_15 cs_X7_isBadTurn_85 rfl rfl (Nat.le_of_ble_eq_true rfl) (fun v15 M15 h15 => ?_)
    obtain ⟨rfl, q15⟩ := h15
    rw [q15]
    clear q15
    refine ex_if_eq (t := 25) F dX7_isBadTurn_18 (by decide) (fun c18 => ?_) (fun c18 => ?_)
    · refine ex_iconst (v := 0) F dX7_isBadTurn_25 (by decide) ?_
      exact ex_zret (ty := .boolean) F R dX7_isBadTurn_26 rfl (rfl) (⟨by simp [badT, b2i_0.mp c8, b2i_0.mp c18]; rfl, rfl⟩)
    · refine ex_iconst (v := 1) F dX7_isBadTurn_21 (by decide) ?_
      refine ex_goto (t := 26) F dX7_isBadTurn_22 (by decide) ?_
      exact ex_zret (ty := .boolean) F R dX7_isBadTurn_26 rfl (rfl) (⟨by simp [badT, b2i_0.mp c8, b2i_1.mp c18]; rfl, rfl⟩)
theorem cs_X7_isBadRun_135 : CSV (xmN YX7_isBadRun).cls (xmF YX7_isBadRun) (xmW YX7_isBadRun) 135 1 YX6_hasCows := ⟨⟨ml_X7_135, ini_X6, cd_X6_hasCows, by decide +kernel, by decide⟩, im_X6_hasCows, se_X6_hasCows⟩
theorem cs_X7_isBadRun_85 : CSS (xmN YX7_isBadRun).cls (xmF YX7_isBadRun) (xmW YX7_isBadRun) 85 3 YX7_outside := ⟨⟨ml_X7_85, ini_X7, cd_X7_outside, by decide +kernel, by decide⟩, st_X7_outside⟩
set_option maxRecDepth 100000 in
theorem c_X7_isBadRun {l : Launch} {g : XG} {M : Mem} {b w0 p : Int32} : Call l g YX7_isBadRun [.ref (ad g 0), .int b, .int w0, .int p] M (PI (fun v M' => v = b2i (badR (M 1 4) b w0 p) ∧ M' = M)) := by
  refine call_of (by decide +kernel) (Nat.le_of_ble_eq_true rfl) (fun x hxl F R => ?_)
  subst hxl
  refine ex_aload_n F dX7_isBadRun_0 rfl rfl ?_
  refine gf_7_0 F dX7_isBadRun_1 fl_X7_10 ?_
  refine ex_iload_n F dX7_isBadRun_4 rfl rfl ?_
  refine ex_callVi F (c_X6_hasCows) dX7_isBadRun_5 cs_X7_isBadRun_135 (ob_6 (by decide)) rfl rfl rfl rfl (Nat.le_of_ble_eq_true rfl) (fun v5 M5 h5 => ?_)
  obtain ⟨rfl, q5⟩ := h5
  rw [q5]
  clear q5
  refine ex_if_eq (t := 32) F dX7_isBadRun_8 (by decide) (fun c8 => ?_) (fun c8 => ?_)
  · refine ex_iconst (v := 1) F dX7_isBadRun_32 (by decide) ?_
    refine ex_goto (t := 37) F dX7_isBadRun_33 (by decide) ?_
    exact ex_zret (ty := .boolean) F R dX7_isBadRun_37 rfl (rfl) (⟨by simp [badR, b2i_0.mp c8]; rfl, rfl⟩)
  · refine ex_iload_n F dX7_isBadRun_11 rfl rfl ?_
    refine ex_iconst (v := 0) F dX7_isBadRun_12 (by decide) ?_
    refine ex_sipush (v := 400) F dX7_isBadRun_13 (by decide) ?_
    refine ex_callSi F (c_X7_outside) dX7_isBadRun_16 cs_X7_isBadRun_85 rfl rfl (Nat.le_of_ble_eq_true rfl) (fun v16 M16 h16 => ?_)
    obtain ⟨rfl, q16⟩ := h16
    rw [q16]
    clear q16
    refine ex_if_ne (t := 32) F dX7_isBadRun_19 (by decide) (fun c19 => ?_) (fun c19 => ?_)
    · refine ex_iconst (v := 1) F dX7_isBadRun_32 (by decide) ?_
      refine ex_goto (t := 37) F dX7_isBadRun_33 (by decide) ?_
      exact ex_zret (ty := .boolean) F R dX7_isBadRun_37 rfl (rfl) (⟨by simp [badR, b2i_1.mp c8, b2i_1.mp c19]; rfl, rfl⟩)
    · refine ex_iload_n F dX7_isBadRun_22 rfl rfl ?_
      refine ex_iconst (v := 1) F dX7_isBadRun_23 (by decide) ?_
      refine ex_bipush (v := 9) F dX7_isBadRun_24 (by decide) ?_
      refine ex_callSi F (c_X7_outside) dX7_isBadRun_26 cs_X7_isBadRun_85 rfl rfl (Nat.le_of_ble_eq_true rfl) (fun v26 M26 h26 => ?_)
      obtain ⟨rfl, q26⟩ := h26
      rw [q26]
      clear q26
      refine ex_if_eq (t := 36) F dX7_isBadRun_29 (by decide) (fun c29 => ?_) (fun c29 => ?_)
      · refine ex_iconst (v := 0) F dX7_isBadRun_36 (by decide) ?_
        exact ex_zret (ty := .boolean) F R dX7_isBadRun_37 rfl (rfl) (⟨by simp [badR, b2i_1.mp c8, b2i_0.mp c19, b2i_0.mp c29]; rfl, rfl⟩)
      · refine ex_iconst (v := 1) F dX7_isBadRun_32 (by decide) ?_
        refine ex_goto (t := 37) F dX7_isBadRun_33 (by decide) ?_
        exact ex_zret (ty := .boolean) F R dX7_isBadRun_37 rfl (rfl) (⟨by simp [badR, b2i_1.mp c8, b2i_0.mp c19, b2i_1.mp c29]; rfl, rfl⟩)
theorem cs_X7_turnChurn_162 : CSV (xmN YX7_turnChurn).cls (xmF YX7_turnChurn) (xmW YX7_turnChurn) 162 2 YX1_turnOnce := ⟨⟨ml_X7_162, ini_X1, cd_X1_turnOnce, by decide +kernel, by decide⟩, im_X1_turnOnce, se_X1_turnOnce⟩
set_option maxRecDepth 100000 in
theorem c_X7_turnChurn {l : Launch} {g : XG} {M : Mem} {n0 p : Int32} {n : Nat} (hR : okR (M 2)) (hn : n0 = nI n) (hn2 : n < 2 ^ 31) : Call l g YX7_turnChurn [.ref (ad g 0), .int n0, .int p] M (PI (fun v M' => v = sFalls (M 2) p (cX M 14) n ∧ M' = putC M 14 (itT (M 2) p n (cX M 14)))) := by
  refine call_of (by decide +kernel) (Nat.le_of_ble_eq_true rfl) (fun x hxl F R => ?_)
  subst hxl
  refine ex_iconst (v := 0) F dX7_turnChurn_0 (by decide) ?_
  refine ex_istore_n F dX7_turnChurn_1 rfl (by decide) ?_
  refine ex_iconst (v := 0) F dX7_turnChurn_2 (by decide) ?_
  refine ex_istore F dX7_turnChurn_3 (by decide) ?_
  have key : ∀ (m i : Nat) (v a : Int32), i + m = n → v = nI i → a = sFalls (M 2) p (cX M 14) i → EX x g (xmL YX7_turnChurn) (putC M 14 (itT (M 2) p i (cX M 14))) 5 [(0, .ref (ad g 0)), (1, .int n0), (2, .int p), (3, .int a), (4, .int v)] [] := by
    intro m
    induction m with
    | zero =>
      intro i v a hi hv ha
      obtain rfl : i = n := by omega
      subst hv
      refine ex_iload F dX7_turnChurn_5 rfl ?_
      refine ex_iload_n F dX7_turnChurn_7 rfl rfl ?_
      refine ex_icmp_ge (t := 35) F dX7_turnChurn_8 (by decide) (fun _ => ?_) (fun c => absurd (by rw [hn]; exact Int32.le_refl _) c)
      refine ex_iload_n F dX7_turnChurn_35 rfl rfl ?_
      exact ex_iret F R dX7_turnChurn_36 rfl (⟨ha, rfl⟩)
    | succ m ih =>
      intro i v a hi hv ha
      subst hv
      refine ex_iload F dX7_turnChurn_5 rfl ?_
      refine ex_iload_n F dX7_turnChurn_7 rfl rfl ?_
      refine ex_icmp_ge (t := 35) F dX7_turnChurn_8 (by decide) (fun c => absurd c (by rw [hn]; exact nI_ge (by omega) (by omega))) (fun _ => ?_)
      refine ex_aload_n F dX7_turnChurn_11 rfl rfl ?_
      refine gf_7_2 F dX7_turnChurn_12 fl_X7_26 ?_
      refine ex_aload_n F dX7_turnChurn_15 rfl rfl ?_
      refine gf_7_0 F dX7_turnChurn_16 fl_X7_10 ?_
      refine ex_iload_n F dX7_turnChurn_19 rfl rfl ?_
      refine ex_callVi F (c_X1_turnOnce (M := putC M 14 _) (k := 14) (by decide) hR) dX7_turnChurn_20 cs_X7_turnChurn_162 (ob_1 (by decide)) rfl rfl rfl rfl (Nat.le_of_ble_eq_true rfl) (fun v20 M20 h20 => ?_)
      obtain ⟨e20, q20⟩ := h20
      rw [cX_putC, putC_putC] at q20
      rw [cX_putC] at e20
      have q20 : M20 = putC M 14 (itT (M 2) p (i + 1) (cX M 14)) := q20
      have e20 : v20 = b2i (!sSwell (M 2) (itT (M 2) p i (cX M 14))) := e20
      rw [q20]
      clear q20
      subst e20
      refine ex_if_eq (t := 29) F dX7_turnChurn_23 (by decide) (fun c23 => ?_) (fun c23 => ?_)
      · refine ex_iinc (w := _ + 1) F dX7_turnChurn_29 rfl rfl (by decide) ?_
        refine ex_goto (t := 5) F dX7_turnChurn_32 (by decide) ?_
        refine ex_weak2 (ih (i + 1) _ _ (by omega) (nI_1 i) ?_) ⟨rfl, rfl, rfl, rfl, rfl, trivial⟩
        rw [sFalls, ← ha, b2i_0.mp c23]
        simp [b2i]
      · refine ex_iinc (w := _ + 1) F dX7_turnChurn_26 rfl rfl (by decide) ?_
        refine ex_iinc (w := _ + 1) F dX7_turnChurn_29 rfl rfl (by decide) ?_
        refine ex_goto (t := 5) F dX7_turnChurn_32 (by decide) ?_
        refine ex_weak2 (ih (i + 1) _ _ (by omega) (nI_1 i) ?_) ⟨rfl, rfl, rfl, rfl, rfl, trivial⟩
        rw [sFalls, ← ha, b2i_1.mp c23]
        rfl
  exact ex_M (putC_cX M 14).symm (ex_weak2 (key n 0 _ _ (by omega) rfl rfl) ⟨rfl, rfl, rfl, rfl, rfl, trivial⟩)
theorem badT_n {n p : Int32} (h : badT n p = false) : ¬ n < 0 := by
  simp [badT, outB] at h
  exact fun q => absurd (Int32.lt_of_lt_of_le q (by decide : (0 : Int32) ≤ 1)) (Int32.not_lt.mpr h.1.1)
theorem cs_X7_turn_140 : CSS (xmN YX7_turn).cls (xmF YX7_turn) (xmW YX7_turn) 140 2 YX7_isBadTurn := ⟨⟨ml_X7_140, ini_X7, cd_X7_isBadTurn, by decide +kernel, by decide⟩, st_X7_isBadTurn⟩
theorem cs_X7_turn_144 : CSV (xmN YX7_turn).cls (xmF YX7_turn) (xmW YX7_turn) 144 2 YX7_turnChurn := ⟨⟨ml_X7_144, ini_X7, cd_X7_turnChurn, by decide +kernel, by decide⟩, im_X7_turnChurn, se_X7_turnChurn⟩
set_option maxRecDepth 100000 in
theorem c_X7_turn {l : Launch} {g : XG} {M : Mem} {n p : Int32} (hR : okR (M 2)) : Call l g YX7_turn [.ref (ad g 0), .int n, .int p] M (PI (fun v M' => v = (if badT n p = true then -1 else sFalls (M 2) p (cX M 14) n.toNatClampNeg) ∧ M' = (if badT n p = true then M else putC M 14 (itT (M 2) p n.toNatClampNeg (cX M 14))))) := by
  refine call_of (by decide +kernel) (Nat.le_of_ble_eq_true rfl) (fun x hxl F R => ?_)
  subst hxl
  refine ex_iload_n F dX7_turn_0 rfl rfl ?_
  refine ex_iload_n F dX7_turn_1 rfl rfl ?_
  refine ex_callSi F (c_X7_isBadTurn) dX7_turn_2 cs_X7_turn_140 rfl rfl (Nat.le_of_ble_eq_true rfl) (fun v2 M2 h2 => ?_)
  obtain ⟨rfl, q2⟩ := h2
  rw [q2]
  clear q2
  refine ex_if_eq (t := 10) F dX7_turn_5 (by decide) (fun c5 => ?_) (fun c5 => ?_)
  · refine ex_aload_n F dX7_turn_10 rfl rfl ?_
    refine ex_iload_n F dX7_turn_11 rfl rfl ?_
    refine ex_iload_n F dX7_turn_12 rfl rfl ?_
    refine ex_callVi F (c_X7_turnChurn (n := n.toNatClampNeg) hR (nI_self (badT_n (b2i_0.mp c5))) (nI_tcn_lt _)) dX7_turn_13 cs_X7_turn_144 ob_7 rfl rfl rfl rfl (Nat.le_of_ble_eq_true rfl) (fun v13 M13 h13 => ?_)
    obtain ⟨e13, q13⟩ := h13
    exact ex_iret F R dX7_turn_16 rfl (⟨by rw [if_neg (by rw [b2i_0.mp c5]; decide)]; exact e13, by rw [if_neg (by rw [b2i_0.mp c5]; decide)]; exact q13⟩)
  · refine ex_iconst (v := -1) F dX7_turn_8 (by decide) ?_
    exact ex_iret F R dX7_turn_9 rfl (⟨by rw [if_pos (b2i_1.mp c5)], by rw [if_pos (b2i_1.mp c5)]⟩)
theorem cs_X7_fill_135 : CSV (xmN YX7_fill).cls (xmF YX7_fill) (xmW YX7_fill) 135 1 YX6_hasCows := ⟨⟨ml_X7_135, ini_X6, cd_X6_hasCows, by decide +kernel, by decide⟩, im_X6_hasCows, se_X6_hasCows⟩
theorem cs_X7_fill_85 : CSS (xmN YX7_fill).cls (xmF YX7_fill) (xmW YX7_fill) 85 3 YX7_outside := ⟨⟨ml_X7_85, ini_X7, cd_X7_outside, by decide +kernel, by decide⟩, st_X7_outside⟩
theorem cs_X7_fill_108 : CSV (xmN YX7_fill).cls (xmF YX7_fill) (xmW YX7_fill) 108 3 YX1_fillWith := ⟨⟨ml_X7_108, ini_X1, cd_X1_fillWith, by decide +kernel, by decide⟩, im_X1_fillWith, se_X1_fillWith⟩
set_option maxRecDepth 100000 in
theorem c_X7_fill {l : Launch} {g : XG} {M : Mem} {b w0 : Int32} : Call l g YX7_fill [.ref (ad g 0), .int b, .int w0] M (PI (fun v M' => v = (if (!sHasCows (M 1 4) b || outB w0 0 400) = true then -1 else sLitN (M 4) b 8) ∧ M' = (if (!sHasCows (M 1 4) b || outB w0 0 400) = true then M else putC M 14 (sFillN 7 (sLitN (M 4) b 8) (sHardOf (M 4) (M 5) b) w0 (M 3) (cX M 14))))) := by
  refine call_of (by decide +kernel) (Nat.le_of_ble_eq_true rfl) (fun x hxl F R => ?_)
  subst hxl
  refine ex_aload_n F dX7_fill_0 rfl rfl ?_
  refine gf_7_0 F dX7_fill_1 fl_X7_10 ?_
  refine ex_iload_n F dX7_fill_4 rfl rfl ?_
  refine ex_callVi F (c_X6_hasCows) dX7_fill_5 cs_X7_fill_135 (ob_6 (by decide)) rfl rfl rfl rfl (Nat.le_of_ble_eq_true rfl) (fun v5 M5 h5 => ?_)
  obtain ⟨rfl, q5⟩ := h5
  rw [q5]
  clear q5
  refine ex_if_eq (t := 22) F dX7_fill_8 (by decide) (fun c8 => ?_) (fun c8 => ?_)
  · refine ex_iconst (v := -1) F dX7_fill_22 (by decide) ?_
    exact ex_iret F R dX7_fill_23 rfl (⟨by simp [b2i_0.mp c8], by simp [b2i_0.mp c8]⟩)
  · refine ex_iload_n F dX7_fill_11 rfl rfl ?_
    refine ex_iconst (v := 0) F dX7_fill_12 (by decide) ?_
    refine ex_sipush (v := 400) F dX7_fill_13 (by decide) ?_
    refine ex_callSi F (c_X7_outside) dX7_fill_16 cs_X7_fill_85 rfl rfl (Nat.le_of_ble_eq_true rfl) (fun v16 M16 h16 => ?_)
    obtain ⟨rfl, q16⟩ := h16
    rw [q16]
    clear q16
    refine ex_if_eq (t := 24) F dX7_fill_19 (by decide) (fun c19 => ?_) (fun c19 => ?_)
    · refine ex_aload_n F dX7_fill_24 rfl rfl ?_
      refine gf_7_2 F dX7_fill_25 fl_X7_26 ?_
      refine ex_aload_n F dX7_fill_28 rfl rfl ?_
      refine gf_7_0 F dX7_fill_29 fl_X7_10 ?_
      refine ex_iload_n F dX7_fill_32 rfl rfl ?_
      refine ex_iload_n F dX7_fill_33 rfl rfl ?_
      refine ex_callVv F (c_X1_fillWith (k := 14) (by decide)) dX7_fill_34 cs_X7_fill_108 (ob_1 (by decide)) rfl rfl rfl rfl (Nat.le_of_ble_eq_true rfl) (fun M34 h34 => ?_)
      rw [h34]
      refine ex_aload_n F dX7_fill_37 rfl rfl ?_
      refine gf_7_2 F dX7_fill_38 fl_X7_26 ?_
      refine gf_1_1 (by decide) F dX7_fill_41 fl_X7_138 ?_
      exact ex_iret F R dX7_fill_44 rfl (⟨by simp [b2i_1.mp c8, b2i_0.mp c19]; rfl, by simp [b2i_1.mp c8, b2i_0.mp c19]⟩)
    · refine ex_iconst (v := -1) F dX7_fill_22 (by decide) ?_
      exact ex_iret F R dX7_fill_23 rfl (⟨by simp [b2i_1.mp c8, b2i_1.mp c19], by simp [b2i_1.mp c8, b2i_1.mp c19]⟩)
theorem cs_X7_warm_85 : CSS (xmN YX7_warm).cls (xmF YX7_warm) (xmW YX7_warm) 85 3 YX7_outside := ⟨⟨ml_X7_85, ini_X7, cd_X7_outside, by decide +kernel, by decide⟩, st_X7_outside⟩
set_option maxRecDepth 100000 in
theorem c_X7_warm {l : Launch} {g : XG} {M : Mem} {w0 : Int32} : Call l g YX7_warm [.ref (ad g 0), .int w0] M (PI (fun v M' => v = (if outB w0 0 400 = true then -1 else M 14 2) ∧ M' = (if outB w0 0 400 = true then M else mu M 14 2 w0))) := by
  refine call_of (by decide +kernel) (Nat.le_of_ble_eq_true rfl) (fun x hxl F R => ?_)
  subst hxl
  refine ex_iload_n F dX7_warm_0 rfl rfl ?_
  refine ex_iconst (v := 0) F dX7_warm_1 (by decide) ?_
  refine ex_sipush (v := 400) F dX7_warm_2 (by decide) ?_
  refine ex_callSi F (c_X7_outside) dX7_warm_5 cs_X7_warm_85 rfl rfl (Nat.le_of_ble_eq_true rfl) (fun v5 M5 h5 => ?_)
  obtain ⟨rfl, q5⟩ := h5
  rw [q5]
  clear q5
  refine ex_if_eq (t := 13) F dX7_warm_8 (by decide) (fun c8 => ?_) (fun c8 => ?_)
  · refine ex_aload_n F dX7_warm_13 rfl rfl ?_
    refine gf_7_2 F dX7_warm_14 fl_X7_26 ?_
    refine gf_1_2 (by decide) F dX7_warm_17 fl_X7_68 ?_
    refine ex_istore_n F dX7_warm_20 rfl (by decide) ?_
    refine ex_aload_n F dX7_warm_21 rfl rfl ?_
    refine gf_7_2 F dX7_warm_22 fl_X7_26 ?_
    refine ex_iload_n F dX7_warm_25 rfl rfl ?_
    refine pf_1_2 (by decide) F dX7_warm_26 fl_X7_68 ?_
    refine ex_iload_n F dX7_warm_29 rfl rfl ?_
    exact ex_iret F R dX7_warm_30 rfl (⟨by simp [b2i_0.mp c8], by simp [b2i_0.mp c8]⟩)
  · refine ex_iconst (v := -1) F dX7_warm_11 (by decide) ?_
    exact ex_iret F R dX7_warm_12 rfl (⟨by simp [b2i_1.mp c8], by simp [b2i_1.mp c8]⟩)
theorem cs_X7_half_148 : CSV (xmN YX7_half).cls (xmF YX7_half) (xmW YX7_half) 148 0 YX1_halve := ⟨⟨ml_X7_148, ini_X1, cd_X1_halve, by decide +kernel, by decide⟩, im_X1_halve, se_X1_halve⟩
set_option maxRecDepth 100000 in
theorem c_X7_half {l : Launch} {g : XG} {M : Mem}  : Call l g YX7_half [.ref (ad g 0)] M (PI (fun v M' => v = sHalfN 7 (cX M 14) 0 ∧ M' = putC M 14 (sHalfN 7 (cX M 14)))) := by
  refine call_of (by decide +kernel) (Nat.le_of_ble_eq_true rfl) (fun x hxl F R => ?_)
  subst hxl
  refine ex_aload_n F dX7_half_0 rfl rfl ?_
  refine gf_7_2 F dX7_half_1 fl_X7_26 ?_
  refine ex_callVv F (c_X1_halve (k := 14) (by decide)) dX7_half_4 cs_X7_half_148 (ob_1 (by decide)) rfl rfl rfl rfl (Nat.le_of_ble_eq_true rfl) (fun M4 h4 => ?_)
  rw [h4]
  refine ex_aload_n F dX7_half_7 rfl rfl ?_
  refine gf_7_2 F dX7_half_8 fl_X7_26 ?_
  refine gf_1_1 (by decide) F dX7_half_11 fl_X7_138 ?_
  exact ex_iret F R dX7_half_14 rfl (⟨rfl, rfl⟩)
theorem cs_X7_now_85 : CSS (xmN YX7_now).cls (xmF YX7_now) (xmW YX7_now) 85 3 YX7_outside := ⟨⟨ml_X7_85, ini_X7, cd_X7_outside, by decide +kernel, by decide⟩, st_X7_outside⟩
theorem cs_X7_now_151 : CSV (xmN YX7_now).cls (xmF YX7_now) (xmW YX7_now) 151 2 YX1_tell := ⟨⟨ml_X7_151, ini_X1, cd_X1_tell, by decide +kernel, by decide⟩, im_X1_tell, se_X1_tell⟩
set_option maxRecDepth 100000 in
theorem c_X7_now {l : Launch} {g : XG} {M : Mem} {w0 : Int32} (hR : okR (M 2)) : Call l g YX7_now [.ref (ad g 0), .int w0] M (PI (fun v M' => v = (if outB w0 0 9 = true then -1 else sTell (M 2) (cX M 14) w0) ∧ M' = M)) := by
  refine call_of (by decide +kernel) (Nat.le_of_ble_eq_true rfl) (fun x hxl F R => ?_)
  subst hxl
  refine ex_iload_n F dX7_now_0 rfl rfl ?_
  refine ex_iconst (v := 0) F dX7_now_1 (by decide) ?_
  refine ex_bipush (v := 9) F dX7_now_2 (by decide) ?_
  refine ex_callSi F (c_X7_outside) dX7_now_4 cs_X7_now_85 rfl rfl (Nat.le_of_ble_eq_true rfl) (fun v4 M4 h4 => ?_)
  obtain ⟨rfl, q4⟩ := h4
  rw [q4]
  clear q4
  refine ex_if_eq (t := 14) F dX7_now_7 (by decide) (fun c7 => ?_) (fun c7 => ?_)
  · refine ex_aload_n F dX7_now_14 rfl rfl ?_
    refine gf_7_2 F dX7_now_15 fl_X7_26 ?_
    refine ex_aload_n F dX7_now_18 rfl rfl ?_
    refine gf_7_0 F dX7_now_19 fl_X7_10 ?_
    refine ex_iload_n F dX7_now_22 rfl rfl ?_
    refine ex_callVi F (c_X1_tell (k := 14) (by decide) hR) dX7_now_23 cs_X7_now_151 (ob_1 (by decide)) rfl rfl rfl rfl (Nat.le_of_ble_eq_true rfl) (fun v23 M23 h23 => ?_)
    obtain ⟨rfl, q23⟩ := h23
    rw [q23]
    clear q23
    exact ex_iret F R dX7_now_26 rfl (⟨by simp [b2i_0.mp c7], rfl⟩)
  · refine ex_iconst (v := -1) F dX7_now_10 (by decide) ?_
    refine ex_goto (t := 26) F dX7_now_11 (by decide) ?_
    exact ex_iret F R dX7_now_26 rfl (⟨by simp [b2i_1.mp c7], rfl⟩)
theorem cs_X7_drops_155 : CSV (xmN YX7_drops).cls (xmF YX7_drops) (xmW YX7_drops) 155 1 YX1_dropsOf := ⟨⟨ml_X7_155, ini_X1, cd_X1_dropsOf, by decide +kernel, by decide⟩, im_X1_dropsOf, se_X1_dropsOf⟩
set_option maxRecDepth 100000 in
theorem c_X7_drops {l : Launch} {g : XG} {M : Mem} {v0 : Int32} : Call l g YX7_drops [.ref (ad g 0), .int v0] M (PI (fun v M' => v = sDropC (cX M 14) v0 ∧ M' = M)) := by
  refine call_of (by decide +kernel) (Nat.le_of_ble_eq_true rfl) (fun x hxl F R => ?_)
  subst hxl
  refine ex_aload_n F dX7_drops_0 rfl rfl ?_
  refine gf_7_2 F dX7_drops_1 fl_X7_26 ?_
  refine ex_iload_n F dX7_drops_4 rfl rfl ?_
  refine ex_callVi F (c_X1_dropsOf (k := 14) (by decide)) dX7_drops_5 cs_X7_drops_155 (ob_1 (by decide)) rfl rfl rfl rfl (Nat.le_of_ble_eq_true rfl) (fun v5 M5 h5 => ?_)
  obtain ⟨rfl, q5⟩ := h5
  rw [q5]
  clear q5
  exact ex_iret F R dX7_drops_8 rfl (⟨rfl, rfl⟩)
theorem cs_X7_over_85 : CSS (xmN YX7_over).cls (xmF YX7_over) (xmW YX7_over) 85 3 YX7_outside := ⟨⟨ml_X7_85, ini_X7, cd_X7_outside, by decide +kernel, by decide⟩, st_X7_outside⟩
theorem cs_X7_over_190 : CSV (xmN YX7_over).cls (xmF YX7_over) (xmW YX7_over) 190 0 YX1_hasCome := ⟨⟨ml_X7_190, ini_X1, cd_X1_hasCome, by decide +kernel, by decide⟩, im_X1_hasCome, se_X1_hasCome⟩
theorem cs_X7_over_197 : CSV (xmN YX7_over).cls (xmF YX7_over) (xmW YX7_over) 197 1 YX1_becomeLike := ⟨⟨ml_X7_197, ini_X1, cd_X1_becomeLike, by decide +kernel, by decide⟩, im_X1_becomeLike, se_X1_becomeLike⟩
theorem cs_X7_over_200 : CSV (xmN YX7_over).cls (xmF YX7_over) (xmW YX7_over) 200 0 YX1_isMostlyGreatest := ⟨⟨ml_X7_200, ini_X1, cd_X1_isMostlyGreatest, by decide +kernel, by decide⟩, im_X1_isMostlyGreatest, se_X1_isMostlyGreatest⟩
theorem cs_X7_over_162 : CSV (xmN YX7_over).cls (xmF YX7_over) (xmW YX7_over) 162 2 YX1_turnOnce := ⟨⟨ml_X7_162, ini_X1, cd_X1_turnOnce, by decide +kernel, by decide⟩, im_X1_turnOnce, se_X1_turnOnce⟩
set_option maxRecDepth 100000 in
theorem c_X7_over {l : Launch} {g : XG} {M : Mem} {p : Int32} (hR : okR (M 2)) (h14 : zC (cX M 14)) (h16 : zC (cX M 16)) : Call l g YX7_over [.ref (ad g 0), .int p] M (PI (fun v M' => v = (if outB p 1 9 = true then -1 else if (!sCome (cX M 14)) = true then -2 else sOverN (M 2) p (cX M 14) 401 0) ∧ jX M M')) := by
  refine call_of (by decide +kernel) (Nat.le_of_ble_eq_true rfl) (fun x hxl F R => ?_)
  subst hxl
  refine ex_iload_n F dX7_over_0 rfl rfl ?_
  refine ex_iconst (v := 1) F dX7_over_1 (by decide) ?_
  refine ex_bipush (v := 9) F dX7_over_2 (by decide) ?_
  refine ex_callSi F (c_X7_outside) dX7_over_4 cs_X7_over_85 rfl rfl (Nat.le_of_ble_eq_true rfl) (fun v4 M4 h4 => ?_)
  obtain ⟨rfl, q4⟩ := h4
  rw [q4]
  clear q4
  refine ex_if_eq (t := 12) F dX7_over_7 (by decide) (fun c7 => ?_) (fun c7 => ?_)
  · refine ex_aload_n F dX7_over_12 rfl rfl ?_
    refine gf_7_2 F dX7_over_13 fl_X7_26 ?_
    refine ex_callVi F (c_X1_hasCome (k := 14) (by decide)) dX7_over_16 cs_X7_over_190 (ob_1 (by decide)) rfl rfl rfl rfl (Nat.le_of_ble_eq_true rfl) (fun v16 M16 h16 => ?_)
    obtain ⟨rfl, q16⟩ := h16
    rw [q16]
    clear q16
    refine ex_if_ne (t := 25) F dX7_over_19 (by decide) (fun c19 => ?_) (fun c19 => ?_)
    · refine ex_aload_n F dX7_over_25 rfl rfl ?_
      refine gf_7_3 F dX7_over_26 fl_X7_30 ?_
      refine ex_aload_n F dX7_over_29 rfl rfl ?_
      refine gf_7_2 F dX7_over_30 fl_X7_26 ?_
      refine ex_callVv F (c_X1_becomeLike (k := 16) (q := 14) (by decide) (by decide) (by decide)) dX7_over_33 cs_X7_over_197 (ob_1 (by decide)) rfl rfl rfl rfl (Nat.le_of_ble_eq_true rfl) (fun M33 h33 => ?_)
      rw [cpC_z h14 h16] at h33
      rw [h33]
      clear h33
      refine ex_iconst (v := 0) F dX7_over_36 (by decide) ?_
      refine ex_istore_n F dX7_over_37 rfl (by decide) ?_
      have key : ∀ (m i : Nat) (v : Int32), i + m = 401 → v = nI i → sOverN (M 2) p (cX M 14) m i = sOverN (M 2) p (cX M 14) 401 0 → EX x g (xmL YX7_over) (putC M 16 (itT (M 2) p i (cX M 14))) 38 [(0, .ref (ad g 0)), (1, .int p), (2, .int v)] [] := by
        intro m
        induction m with
        | zero =>
          intro i v hi hv hs
          obtain rfl : i = 401 := by omega
          subst hv
          refine ex_iload_n F dX7_over_38 rfl rfl ?_
          refine ex_sipush (v := 400) F dX7_over_39 (by decide) ?_
          refine ex_icmp_gt (t := 76) F dX7_over_42 (by decide) (fun _ => ?_) (fun c => absurd (by decide) c)
          refine ex_bipush (v := -4) F dX7_over_76 (by decide) ?_
          exact ex_iret F R dX7_over_78 rfl (⟨by rw [if_neg (by rw [b2i_0.mp c7]; decide), if_neg (by rw [b2i_1.mp c19]; decide), ← hs, sOverN], jX_put (zC_it 401 h14)⟩)
        | succ m ih =>
          intro i v hi hv hs
          subst hv
          refine ex_iload_n F dX7_over_38 rfl rfl ?_
          refine ex_sipush (v := 400) F dX7_over_39 (by decide) ?_
          refine ex_icmp_gt (t := 76) F dX7_over_42 (by decide) (fun c => absurd c (nI_nlt (b := i) (a := 400) (by omega) (by decide))) (fun _ => ?_)
          refine ex_aload_n F dX7_over_45 rfl rfl ?_
          refine gf_7_3 F dX7_over_46 fl_X7_30 ?_
          refine ex_callVi F (c_X1_isMostlyGreatest (k := 16) (by decide)) dX7_over_49 cs_X7_over_200 (ob_1 (by decide)) rfl rfl rfl rfl (Nat.le_of_ble_eq_true rfl) (fun v49 M49 h49 => ?_)
          rw [cX_putC] at h49
          obtain ⟨rfl, q49⟩ := h49
          rw [q49]
          clear q49
          refine ex_if_eq (t := 57) F dX7_over_52 (by decide) (fun c52 => ?_) (fun c52 => ?_)
          · refine ex_aload_n F dX7_over_57 rfl rfl ?_
            refine gf_7_3 F dX7_over_58 fl_X7_30 ?_
            refine ex_aload_n F dX7_over_61 rfl rfl ?_
            refine gf_7_0 F dX7_over_62 fl_X7_10 ?_
            refine ex_iload_n F dX7_over_65 rfl rfl ?_
            refine ex_callVi F (c_X1_turnOnce (M := putC M 16 _) (k := 16) (by decide) hR) dX7_over_66 cs_X7_over_162 (ob_1 (by decide)) rfl rfl rfl rfl (Nat.le_of_ble_eq_true rfl) (fun v66 M66 h66 => ?_)
            obtain ⟨e66, q66⟩ := h66
            rw [cX_putC, putC_putC] at q66
            have q66 : M66 = putC M 16 (itT (M 2) p (i + 1) (cX M 14)) := q66
            rw [q66]
            clear q66
            refine ex_pop F dX7_over_69 rfl ?_
            refine ex_iinc (w := _ + 1) F dX7_over_70 rfl rfl (by decide) ?_
            refine ex_goto (t := 38) F dX7_over_73 (by decide) ?_
            refine ex_weak2 (ih (i + 1) _ (by omega) (nI_1 i) ?_) ⟨rfl, rfl, rfl, trivial⟩
            rw [← hs, sOverN, if_neg (by rw [b2i_0.mp c52]; decide)]
          · refine ex_iload_n F dX7_over_55 rfl rfl ?_
            exact ex_iret F R dX7_over_56 rfl (⟨by rw [if_neg (by rw [b2i_0.mp c7]; decide), if_neg (by rw [b2i_1.mp c19]; decide), ← hs, sOverN, if_pos (b2i_1.mp c52)], jX_put (zC_it i h14)⟩)
      exact ex_weak2 (key 401 0 _ (by omega) rfl rfl) ⟨rfl, rfl, rfl, trivial⟩
    · refine ex_bipush (v := -2) F dX7_over_22 (by decide) ?_
      exact ex_iret F R dX7_over_24 rfl (⟨by rw [if_neg (by rw [b2i_0.mp c7]; decide), if_pos (by rw [b2i_0.mp c19]; decide)], jX_rf h16⟩)
  · refine ex_iconst (v := -1) F dX7_over_10 (by decide) ?_
    exact ex_iret F R dX7_over_11 rfl (⟨by rw [if_pos (b2i_1.mp c7)], jX_rf h16⟩)
end
section
-- numbers: division that goes down, hardness as a whole number
theorem xor_sign (a : Int32) : 0 ≤ a ^^^ 100 ↔ 0 ≤ a := by
  rw [Jvm.Kit.i32_nonneg, Jvm.Kit.i32_nonneg]
  have h1 : (a ^^^ 100).toBitVec.msb = a.toBitVec.msb := by
    rw [Int32.toBitVec_xor, BitVec.msb_xor]
    have : (100 : Int32).toBitVec.msb = false := by decide
    rw [this]; simp
  have e1 := BitVec.msb_eq_toInt (x := (a ^^^ 100).toBitVec)
  have e2 := BitVec.msb_eq_toInt (x := a.toBitVec)
  rw [e1, e2] at h1
  have h2 : (a ^^^ 100).toInt < 0 ↔ a.toInt < 0 := decide_eq_decide.mp h1
  omega
theorem fdv_int {a : Int32} (h1 : -40000 ≤ a.toInt) (h2 : a.toInt ≤ 40000) : (fdv a 100).toInt = a.toInt / 100 := by
  have h100 : (100 : Int32).toInt = 100 := by decide
  have hd : (a / 100).toInt = a.toInt.tdiv 100 := by rw [Jvm.Kit.i32_div (by rw [h100]; omega), h100]
  unfold fdv
  by_cases h : 0 ≤ a
  · rw [if_pos ((xor_sign a).mpr h), hd, Int.tdiv_eq_ediv_of_nonneg (Jvm.Kit.i32_nonneg.mp h)]
  · have hn : a.toInt < 0 := by
      have := mt Jvm.Kit.i32_nonneg.mpr h
      omega
    rw [if_neg (fun q => h ((xor_sign a).mp q))]
    have ht : a.toInt.tdiv 100 = -((-a.toInt) / 100) := by
      have := Int.neg_tdiv (-a.toInt) 100
      rw [Int.neg_neg] at this
      rw [this, Int.tdiv_eq_ediv_of_nonneg (by omega)]
    have hm : (a / 100 * 100).toInt = a.toInt.tdiv 100 * 100 := by
      rw [Jvm.Kit.i32_mul (by rw [hd, h100, ht]; omega) (by rw [hd, h100, ht]; omega), hd, h100]
    have he : a / 100 * 100 = a ↔ -((-a.toInt) / 100) * 100 = a.toInt := by
      rw [← Int32.toInt_inj, hm, ht]
    by_cases hq : a / 100 * 100 = a
    · rw [if_pos hq, hd, ht]
      have := he.mp hq
      omega
    · rw [if_neg hq]
      have h3 : (1 : Int32).toInt = 1 := by decide
      rw [Jvm.Kit.i32_sub (by rw [hd, h3, ht]; omega) (by rw [hd, h3, ht]; omega), hd, h3, ht]
      have := mt he.mpr hq
      omega
def hardI (b s w h : Int) : Int := if 0 < (if h - (w - b) * s / 100 < 100 then h - (w - b) * s / 100 else 100) then (if h - (w - b) * s / 100 < 100 then h - (w - b) * s / 100 else 100) else 0
theorem prod_in {b s w : Nat} (hb : b ≤ 400) (hs : s ≤ 99) (hw : w ≤ 400) : -39600 ≤ ((w : Int) - b) * s ∧ ((w : Int) - b) * s ≤ 39600 := by
  have h1 : ((w : Int) - b) * s = (w : Int) * s - (b : Int) * s := Int.sub_mul _ _ _
  have h2 : (w * s : Nat) ≤ 400 * 99 := Nat.mul_le_mul hw hs
  have h3 : (b * s : Nat) ≤ 400 * 99 := Nat.mul_le_mul hb hs
  have e2 : ((w * s : Nat) : Int) = (w : Int) * s := Int.natCast_mul w s
  have e3 : ((b * s : Nat) : Int) = (b : Int) * s := Int.natCast_mul b s
  rw [h1, ← e2, ← e3]
  omega
theorem ite_toInt {c : Prop} [Decidable c] {a b : Int32} : (if c then a else b).toInt = if c then a.toInt else b.toInt := by split <;> rfl
theorem sHard_int {r c : Nat → Int32} {b s w h : Nat} (hb : r 1 = nI b) (hs : r 2 = nI s) (hw : c 1 = nI w) (hh : c 2 = nI h) (lb : b ≤ 400) (ls : s ≤ 99) (lw : w ≤ 400) (lh : h ≤ 100) : (sHard r c).toInt = hardI b s w h := by
  obtain ⟨p1, p2⟩ := prod_in lb ls lw
  have e1 : (c 1 - r 1).toInt = (w : Int) - b := by
    rw [hw, hb]; exact pk_sub_toInt (by omega) (by omega)
  have e2 : ((c 1 - r 1) * r 2).toInt = ((w : Int) - b) * s := by
    rw [Jvm.Kit.i32_mul (by rw [e1, hs, nI_toInt (by omega)]; omega) (by rw [e1, hs, nI_toInt (by omega)]; omega), e1, hs, nI_toInt (by omega)]
  have e3 : (fdv ((c 1 - r 1) * r 2) 100).toInt = ((w : Int) - b) * s / 100 := by
    rw [fdv_int (by rw [e2]; omega) (by rw [e2]; omega), e2]
  have e4 : (c 2 - fdv ((c 1 - r 1) * r 2) 100).toInt = (h : Int) - ((w : Int) - b) * s / 100 := by
    rw [Jvm.Kit.i32_sub (by rw [e3, hh, nI_toInt (by omega)]; omega) (by rw [e3, hh, nI_toInt (by omega)]; omega), e3, hh, nI_toInt (by omega)]
  have h100 : (100 : Int32).toInt = 100 := by decide
  have h0 : (0 : Int32).toInt = 0 := by decide
  unfold sHard hardI
  simp only [Int32.lt_iff_toInt_lt, ite_toInt, e4, h100, h0]
theorem hardI_mono {b s w w' h : Nat} (hw : w ≤ w') (h0 : hardI b s w h = 0) : hardI b s w' h = 0 := by
  have h1 : ((w : Int) - b) * s ≤ ((w' : Int) - b) * s := Int.mul_le_mul_of_nonneg_right (by omega) (by omega)
  have h2 : ((w : Int) - b) * s / 100 ≤ ((w' : Int) - b) * s / 100 := Int.ediv_le_ediv (by omega) h1
  unfold hardI at h0 ⊢
  generalize ((w : Int) - b) * s / 100 = x at *
  generalize ((w' : Int) - b) * s / 100 = y at *
  split at h0 <;> split <;> (try split at h0) <;> (try split) <;> omega
-- what a churn is between turns
def okC (T : Nat) (c : Nat → Int32) : Prop := (∃ w, w ≤ 400 ∧ c 1 = nI w) ∧ (∃ h, h ≤ 100 ∧ c 2 = nI h) ∧ (∃ t, t ≤ T ∧ c 4 = nI t) ∧ (c 5 = -4 ∨ ∃ t, t ≤ T ∧ c 5 = nI t) ∧ zC c
theorem sJn_lo {rate : Int32} : ∀ (n : Nat) (c : Nat → Int32) (j : Nat), j < 6 → sJn rate n c j = c j := by
  intro n
  induction n with
  | zero => intro c j _; rfl
  | succ n ih =>
    intro c j hj
    show sJn rate n (sJ rate n c) j = c j
    rw [ih _ j hj, sJ, pk_un (by omega), pk_un (by omega)]
theorem sAir_o {r c : Nat → Int32} {p : Int32} {j : Nat} (h : j ≠ 3) : sAir r p c j = c j := by
  unfold sAir; split
  · rfl
  · exact pk_un h
theorem sBreak_o {r c : Nat → Int32} {j : Nat} (h3 : j ≠ 3) (h5 : j ≠ 5) : sBreak r c j = c j := by
  unfold sBreak; split
  · rfl
  · split
    · rw [pk_un h3, pk_un h5]
    · rfl
theorem sBreak_5 {r c : Nat → Int32} : sBreak r c 5 = c 5 ∨ sBreak r c 5 = c 4 := by
  unfold sBreak; split
  · exact Or.inl rfl
  · split
    · exact Or.inr (by rw [pk_un (by decide), pk_us])
    · exact Or.inl rfl
theorem sTurn1_o {r c : Nat → Int32} {p : Int32} {j : Nat} (hj : j < 6) (h3 : j ≠ 3) (h5 : j ≠ 5) : sTurn1 r p c j = c j := by
  unfold sTurn1; split
  · rfl
  · rw [sBreak_o h3 h5, sJn_lo _ _ _ hj, sAir_o h3]
theorem sTurn1_5 {r c : Nat → Int32} {p : Int32} : sTurn1 r p c 5 = c 5 ∨ sTurn1 r p c 5 = c 4 := by
  unfold sTurn1; split
  · exact Or.inl rfl
  · rcases sBreak_5 (r := r) (c := sJn (sRate r p (sAir r p c)) 6 (sAir r p c)) with h | h
    · exact Or.inl (by rw [h, sJn_lo _ _ _ (by decide), sAir_o (by decide)])
    · exact Or.inr (by rw [h, sJn_lo _ _ _ (by decide), sAir_o (by decide)])
theorem sTick_o {r c : Nat → Int32} {p : Int32} {j : Nat} (h1 : j ≠ 1) (h4 : j ≠ 4) : sTick r p c j = c j := by
  unfold sTick; split
  · rw [pk_un h1, pk_un h4]
  · rw [pk_un h4]
theorem sTick_4 {r c : Nat → Int32} {p : Int32} : sTick r p c 4 = c 4 + 1 := by
  unfold sTick; split
  · rw [pk_un (by decide), pk_us]
  · rw [pk_us]
theorem sTick_1 {r c : Nat → Int32} {p : Int32} {w pp : Nat} (hw : c 1 = nI w) (lw : w ≤ 400) (hp : p = nI pp) (lp : pp ≤ 9) : ∃ w', w ≤ w' ∧ w' ≤ 400 ∧ sTick r p c 1 = nI w' := by
  unfold sTick; split
  · rw [pk_us, hw, hp, nI_add]
    by_cases h : w + pp < 400
    · exact ⟨w + pp, by omega, by omega, by rw [if_pos (show nI (w + pp) < 400 from nI_lt (b := 400) h (by decide))]⟩
    · exact ⟨400, lw, by decide, by rw [if_neg (show ¬ nI (w + pp) < 400 from nI_nlt (a := w + pp) (b := 400) (by omega) (by omega))]; rfl⟩
  · rw [pk_un (by decide)]
    exact ⟨w, by omega, lw, hw⟩
theorem okC_turn {T : Nat} {r c : Nat → Int32} {p : Int32} {pp : Nat} (h : okC T c) (hp : p = nI pp) (lp : pp ≤ 9) : okC (T + 1) (sTurn r p c) := by
  obtain ⟨⟨w, lw, hw⟩, ⟨h', lh, hh⟩, ⟨t, lt, ht⟩, h5, hz⟩ := h
  unfold sTurn
  obtain ⟨w', q1, q2, q3⟩ := sTick_1 (r := r) (c := sTurn1 r p c) (p := p) (by rw [sTurn1_o (by decide) (by decide) (by decide)]; exact hw) lw hp lp
  refine ⟨⟨w', q2, q3⟩, ⟨h', lh, ?_⟩, ⟨t + 1, by omega, ?_⟩, ?_, zC_turn hz⟩
  · rw [sTick_o (by decide) (by decide), sTurn1_o (by decide) (by decide) (by decide), hh]
  · rw [sTick_4, sTurn1_o (by decide) (by decide) (by decide), ht, nI_1]
  · rw [sTick_o (by decide) (by decide)]
    rcases sTurn1_5 (r := r) (c := c) (p := p) with e | e
    · rw [e]
      rcases h5 with h5 | ⟨t5, l5, e5⟩
      · exact Or.inl h5
      · exact Or.inr ⟨t5, by omega, e5⟩
    · exact Or.inr ⟨t, by omega, by rw [e, ht]⟩
theorem okC_it {T : Nat} {r c : Nat → Int32} {p : Int32} {pp : Nat} (h : okC T c) (hp : p = nI pp) (lp : pp ≤ 9) : ∀ n, okC (T + n) (itT r p n c) := by
  intro n
  induction n with
  | zero => exact h
  | succ n ih => exact okC_turn ih hp lp
theorem okC_mono {T T' : Nat} {c : Nat → Int32} (h : okC T c) (hT : T ≤ T') : okC T' c := by
  obtain ⟨a, b, ⟨t, lt, ht⟩, h5, hz⟩ := h
  refine ⟨a, b, ⟨t, by omega, ht⟩, ?_, hz⟩
  rcases h5 with h5 | ⟨t5, l5, e5⟩
  · exact Or.inl h5
  · exact Or.inr ⟨t5, by omega, e5⟩
-- it never comes
theorem sFatN_congr {a b : Nat → Int32} (h : ∀ j, 6 ≤ j → a j = b j) : ∀ (n : Nat) (x : Int32), sFatN a n x = sFatN b n x := by
  intro n
  induction n with
  | zero => intro x; rfl
  | succ n ih => intro x; show sFatN a n _ = sFatN b n _; rw [h _ (by omega), ih]
theorem sDue_congr {r a b : Nat → Int32} (h : ∀ j, 6 ≤ j → a j = b j) : sDue r a = sDue r b := by
  unfold sDue sFat
  rw [sFatN_congr h, sFatN_congr h]
theorem sJ0 (k : Nat) (c : Nat → Int32) : sJ 0 k c = c := by
  funext j
  have e : (0 : Int32) * c (k + 6) / 200 = 0 := by rw [Int32.zero_mul]; decide
  unfold sJ
  rw [e]
  by_cases h1 : j = k + 1 + 6
  · subst h1; rw [pk_us]; simp
  · rw [pk_un h1]
    by_cases h2 : j = k + 6
    · subst h2; rw [pk_us]; simp
    · rw [pk_un h2]
theorem sJn0 : ∀ (n : Nat) (c : Nat → Int32), sJn 0 n c = c := by
  intro n
  induction n with
  | zero => intro c; rfl
  | succ n ih => intro c; show sJn 0 n (sJ 0 n c) = c; rw [sJ0, ih]
def stuck (r c : Nat → Int32) : Prop := sCome c = false ∧ (sSwell r c = true ∨ (sHard r c = 0 ∧ sDue r c = false))
theorem sCome_congr {a b : Nat → Int32} (h : a 5 = b 5) : sCome a = sCome b := by unfold sCome; rw [h]
theorem sHard_congr {r a b : Nat → Int32} (h1 : a 1 = b 1) (h2 : a 2 = b 2) : sHard r a = sHard r b := by unfold sHard; rw [h1, h2]
theorem sSwell_congr {r a b : Nat → Int32} (h0 : a 0 = b 0) (h3 : a 3 = b 3) (h5 : a 5 = b 5) : sSwell r a = sSwell r b := by unfold sSwell; rw [sCome_congr h5, h0, h3]
theorem turn_swell {r c : Nat → Int32} {p : Int32} (h : sSwell r c = true) : sTurn r p c = sTick r p c := by unfold sTurn sTurn1; rw [if_pos h]
theorem hard0_tick {T : Nat} {r c a : Nat → Int32} {p : Int32} {pp : Nat} (hR : okR r) (hC : okC T c) (hp : p = nI pp) (lp : pp ≤ 9) (h1 : a 1 = c 1) (h2 : a 2 = c 2) (h0 : sHard r c = 0) : sHard r (sTick r p a) = 0 := by
  obtain ⟨f, hf, -, f1, f2, -⟩ := hR
  obtain ⟨⟨w, lw, hw⟩, ⟨h', lh, hh⟩, -⟩ := hC
  obtain ⟨w', q1, q2, q3⟩ := sTick_1 (r := r) (c := a) (p := p) (by rw [h1]; exact hw) lw hp lp
  have e1 := sHard_int (hf 1 (by decide)) (hf 2 (by decide)) hw hh f1 f2.2 lw lh
  have e2 := sHard_int (r := r) (c := sTick r p a) (hf 1 (by decide)) (hf 2 (by decide)) q3 (by rw [sTick_o (by decide) (by decide), h2]; exact hh) f1 f2.2 q2 lh
  have h0' : (0 : Int32).toInt = 0 := by decide
  rw [h0, h0'] at e1
  exact Int32.toInt_inj.mp (by rw [e2, hardI_mono q1 e1.symm, h0'])
theorem stuck_turn {T : Nat} {r c : Nat → Int32} {p : Int32} {pp : Nat} (hR : okR r) (hC : okC T c) (hp : p = nI pp) (lp : pp ≤ 9) (h : stuck r c) : stuck r (sTurn r p c) := by
  obtain ⟨hc, h⟩ := h
  by_cases hs : sSwell r c = true
  · rw [turn_swell hs]
    refine ⟨by rw [sCome_congr (b := c) (sTick_o (by decide) (by decide))]; exact hc, Or.inl ?_⟩
    rw [sSwell_congr (b := c) (sTick_o (by decide) (by decide)) (sTick_o (by decide) (by decide)) (sTick_o (by decide) (by decide))]
    exact hs
  · obtain ⟨h0, hd⟩ := h.resolve_left hs
    have ha : ∀ j, j ≠ 3 → sAir r p c j = c j := fun j hj => sAir_o hj
    have hca : sCome (sAir r p c) = false := by rw [sCome_congr (ha 5 (by decide))]; exact hc
    have hra : sRate r p (sAir r p c) = 0 := by
      unfold sRate
      rw [if_neg (by rw [hca]; decide), sHard_congr (ha 1 (by decide)) (ha 2 (by decide)), h0]
      have e : (0 : Int32) * (100 - 0) * sAir r p c 3 / 25000 = 0 := by rw [Int32.zero_mul, Int32.zero_mul]; decide
      rw [e]
      decide
    have hda : sDue r (sAir r p c) = false := by rw [sDue_congr (b := c) (fun j hj => ha j (by omega))]; exact hd
    have e1 : sTurn1 r p c = sAir r p c := by
      unfold sTurn1
      rw [if_neg hs, hra, sJn0]
      unfold sBreak
      rw [if_neg (by rw [hca]; decide), if_neg (by rw [hda]; decide)]
    unfold sTurn
    rw [e1]
    refine ⟨?_, Or.inr ⟨hard0_tick hR hC hp lp (ha 1 (by decide)) (ha 2 (by decide)) h0, ?_⟩⟩
    · rw [sCome_congr (b := c) (by rw [sTick_o (by decide) (by decide), ha 5 (by decide)])]; exact hc
    · rw [sDue_congr (b := c) (fun j hj => by rw [sTick_o (by omega) (by omega), ha j (by omega)])]; exact hd
theorem stuck_it {T : Nat} {r c : Nat → Int32} {p : Int32} {pp : Nat} (hR : okR r) (hC : okC T c) (hp : p = nI pp) (lp : pp ≤ 9) (h : stuck r c) : ∀ n, stuck r (itT r p n c) := by
  intro n
  induction n with
  | zero => exact h
  | succ n ih => exact stuck_turn hR (okC_it hC hp lp n) hp lp ih
theorem early {T : Nat} {r c : Nat → Int32} {p : Int32} (hC : okC T c) (hT : T < 2 ^ 31) (hc : sCome c = false) (hc1 : sCome (sTurn r p c) = false) (h : sSwell r c = true ∨ sHard r (sTurn r p c) = 0) : stuck r (sTurn r p c) := by
  refine ⟨hc1, ?_⟩
  by_cases hs : sSwell r c = true
  · refine Or.inl ?_
    rw [turn_swell hs, sSwell_congr (b := c) (sTick_o (by decide) (by decide)) (sTick_o (by decide) (by decide)) (sTick_o (by decide) (by decide))]
    exact hs
  · refine Or.inr ⟨h.resolve_left hs, ?_⟩
    have e1 : sTurn1 r p c = sBreak r (sJn (sRate r p (sAir r p c)) 6 (sAir r p c)) := by unfold sTurn1; rw [if_neg hs]
    generalize hd : sJn (sRate r p (sAir r p c)) 6 (sAir r p c) = d at e1
    have hd4 : d 4 = c 4 := by rw [← hd, sJn_lo _ _ _ (by decide), sAir_o (by decide)]
    have hd5 : d 5 = c 5 := by rw [← hd, sJn_lo _ _ _ (by decide), sAir_o (by decide)]
    have hcd : sCome d = false := by rw [sCome_congr hd5]; exact hc
    have hdue : sDue r d = false := by
      cases hq : sDue r d with
      | false => rfl
      | true =>
        exfalso
        have e2 : sTurn r p c 5 = c 4 := by
          unfold sTurn
          rw [sTick_o (by decide) (by decide), e1, sBreak, if_neg (by rw [hcd]; decide), if_pos hq, pk_un (by decide), pk_us, hd4]
        obtain ⟨-, -, ⟨t, lt, ht⟩, -⟩ := hC
        unfold sCome at hc1
        rw [e2, ht] at hc1
        have h4 : nI t = -4 := by simpa using hc1
        have h5 := congrArg Int32.toInt h4
        rw [nI_toInt (by omega)] at h5
        have h6 : (-4 : Int32).toInt = -4 := by decide
        rw [h6] at h5
        omega
    have e3 : sBreak r d = d := by unfold sBreak; rw [if_neg (by rw [hcd]; decide), if_neg (by rw [hdue]; decide)]
    unfold sTurn
    rw [e1, e3, sDue_congr (b := d) (fun j hj => sTick_o (by omega) (by omega))]
    exact hdue
def sTillN (r : Nat → Int32) (p : Int32) (c : Nat → Int32) : Nat → Nat → Int32
  | 0, _ => -4
  | m + 1, i => if sCome (itT r p i c) = true then nI i else sTillN r p c m (i + 1)
theorem sTill_none {r c : Nat → Int32} {p : Int32} : ∀ (m i : Nat), (∀ n, i ≤ n → sCome (itT r p n c) = false) → sTillN r p c m i = -4 := by
  intro m
  induction m with
  | zero => intro i _; rfl
  | succ m ih =>
    intro i h
    rw [sTillN, if_neg (by rw [h i (Nat.le_refl _)]; decide)]
    exact ih (i + 1) (fun n hn => h n (by omega))
theorem itT_add {r c : Nat → Int32} {p : Int32} (a : Nat) : ∀ b, itT r p (a + b) c = itT r p b (itT r p a c) := by
  intro b
  induction b with
  | zero => rfl
  | succ b ih => show sTurn r p (itT r p (a + b) c) = sTurn r p (itT r p b (itT r p a c)); rw [ih]
end
section
theorem till_stuck {T : Nat} {r c : Nat → Int32} {p : Int32} {pp : Nat} (hR : okR r) (hC : okC T c) (hp : p = nI pp) (lp : pp ≤ 9) {j : Nat} (hj : T + j < 2 ^ 31) (h0 : sCome (itT r p j c) = false) (h1 : sCome (itT r p (j + 1) c) = false) (h : sSwell r (itT r p j c) = true ∨ sHard r (itT r p (j + 1) c) = 0) (m : Nat) : sTillN r p c m (j + 1) = -4 := by
  have hs : stuck r (itT r p (j + 1) c) := early (okC_it hC hp lp j) hj h0 h1 h
  refine sTill_none m (j + 1) (fun n hn => ?_)
  obtain ⟨d, rfl⟩ : ∃ d, n = j + 1 + d := ⟨n - (j + 1), by omega⟩
  rw [itT_add]
  exact (stuck_it hR (okC_it hC hp lp (j + 1)) hp lp hs d).1
-- cows
def okT (li ha : Nat → Int32) (n : Nat) : Prop := n ≤ 8 ∧ ∀ c, c < n → (∃ x, 1 ≤ x ∧ x ≤ 50 ∧ li c = nI x) ∧ ∃ y, y ≤ 100 ∧ ha c = nI y
theorem sAll_n : ∀ n, n ≤ 8 → sAll (nI n) = nI (2 ^ n - 1) := by
  intro n hn
  match n, hn with
  | 0, _ => decide
  | 1, _ => decide
  | 2, _ => decide
  | 3, _ => decide
  | 4, _ => decide
  | 5, _ => decide
  | 6, _ => decide
  | 7, _ => decide
  | 8, _ => decide
  | n + 9, h => exact absurd h (by omega)
theorem pow8 {n : Nat} (hn : n ≤ 8) : 2 ^ n ≤ 256 := by
  have := Nat.pow_le_pow_right (show 0 < 2 by decide) hn
  exact this
theorem hasCows_n {n : Nat} {b : Int32} (hn : n ≤ 8) (h : sHasCows (nI n) b = true) : ∃ bb, bb < 2 ^ n ∧ b = nI bb := by
  have h8 := pow8 hn
  have h1 : 0 < 2 ^ n := Nat.two_pow_pos n
  simp only [sHasCows, Bool.and_eq_true, decide_eq_true_eq, sAll_n n hn] at h
  obtain ⟨j, hj, rfl⟩ := nI_of (Int32.not_lt.mpr h.1)
  have := (nI_leI hj (by omega)).mp h.2
  exact ⟨j, by omega, rfl⟩
theorem bitI_n {bb i : Nat} (hb : bb < 2 ^ 31) (hi : i < 31) : bitI (nI bb) i = bb.testBit i := by
  have e1 : (nI bb >>> (nI i &&& 31)) = nI (bb / 2 ^ i) := pk_shrN hb _ i (s_l31 i (by omega))
  have h1 : bb / 2 ^ i < 2 ^ 31 := Nat.lt_of_le_of_lt (Nat.div_le_self _ _) hb
  have e2 : nI (bb / 2 ^ i) &&& 1 = nI (bb / 2 ^ i % 2 ^ 1) := pk_andN (by omega) 1 (by decide)
  unfold bitI
  rw [e1, e2, Nat.testBit_eq_decide_div_mod_eq]
  have h2 : bb / 2 ^ i % 2 ^ 1 < 2 := Nat.mod_lt _ (by decide)
  generalize bb / 2 ^ i % 2 ^ 1 = z at h2 ⊢
  show (!decide (nI z = 0)) = decide (z = 1)
  match z, h2 with
  | 0, _ => decide
  | 1, _ => decide
theorem sums_n {li ha : Nat → Int32} {n bb : Nat} (h : okT li ha n) (hb : bb < 2 ^ n) : ∀ k, k ≤ 8 → ∃ s q, sLitN li (nI bb) k = nI s ∧ sSumN li ha (nI bb) k = nI q ∧ s ≤ 50 * k ∧ q ≤ 100 * s := by
  have h8 := pow8 h.1
  intro k
  induction k with
  | zero => intro _; exact ⟨0, 0, rfl, rfl, by omega, by omega⟩
  | succ k ih =>
    intro hk
    obtain ⟨s, q, e1, e2, l1, l2⟩ := ih (by omega)
    rw [sLitN, sSumN]
    by_cases hbit : bitI (nI bb) k = true
    · rw [if_pos hbit, if_pos hbit, e1, e2]
      have hkn : k < n := by
        rcases Nat.lt_or_ge k n with q | q
        · exact q
        · rw [bitI_n (by omega) (by omega), Nat.testBit_lt_two_pow (Nat.lt_of_lt_of_le hb (Nat.pow_le_pow_right (by decide) q))] at hbit
          cases hbit
      obtain ⟨⟨x, x1, x2, ex⟩, ⟨y, y1, ey⟩⟩ := h.2 k hkn
      have hxy : x * y ≤ x * 100 := Nat.mul_le_mul_left x y1
      rw [ex, ey, pk_mul, nI_add, nI_add]
      exact ⟨s + x, q + x * y, rfl, rfl, by omega, by omega⟩
    · rw [if_neg hbit, if_neg hbit, e1, e2]
      exact ⟨s, q, rfl, rfl, by omega, l2⟩
theorem hardOf_n {li ha : Nat → Int32} {n bb : Nat} (h : okT li ha n) (hb : bb < 2 ^ n) : ∃ y, y ≤ 100 ∧ sHardOf li ha (nI bb) = nI y := by
  obtain ⟨s, q, e1, e2, l1, l2⟩ := sums_n h hb 8 (by decide)
  unfold sHardOf
  rw [e1, e2]
  rcases Nat.eq_zero_or_pos s with hs | hs
  · subst hs
    exact ⟨0, by decide, by rw [if_neg (by decide)]; rfl⟩
  · rw [if_pos (show (0 : Int32) < nI s from nI_lt (a := 0) hs (by omega)), pk_div (by omega) hs (by omega)]
    exact ⟨q / s, Nat.div_le_of_le_mul (by rw [Nat.mul_comm]; exact l2), rfl⟩
theorem outB_n {v : Int32} {a b : Nat} (hb : b < 2 ^ 31) (h : outB v (nI a) (nI b) = false) (ha : a < 2 ^ 31) : ∃ n, a ≤ n ∧ n ≤ b ∧ v = nI n := by
  simp only [outB, Bool.or_eq_false_iff, decide_eq_false_iff_not] at h
  have h0 : ¬ v < 0 := fun q => h.1 (Int32.lt_of_lt_of_le q (nI_le (a := 0) (Nat.zero_le a) ha))
  obtain ⟨j, hj, rfl⟩ := nI_of h0
  refine ⟨j, ?_, ?_, rfl⟩
  · rcases Nat.lt_or_ge j a with q | q
    · exact absurd (nI_lt q ha) h.1
    · exact q
  · rcases Nat.lt_or_ge b j with q | q
    · exact absurd (nI_lt q hj) h.2
    · exact q
theorem okC_fill {li ha dr : Nat → Int32} {n : Nat} {b w : Int32} (h : okT li ha n) (hb : sHasCows (nI n) b = true) (hw : outB w 0 400 = false) : okC 0 (sFill (sLitN li b 8) (sHardOf li ha b) w dr) := by
  obtain ⟨bb, lb, rfl⟩ := hasCows_n h.1 hb
  obtain ⟨y, ly, ey⟩ := hardOf_n h lb
  obtain ⟨x, -, lx, ex⟩ := outB_n (a := 0) (b := 400) (by decide) hw (by decide)
  exact ⟨⟨x, lx, ex⟩, ⟨y, ly, ey⟩, ⟨0, Nat.le_refl _, rfl⟩, Or.inl rfl, zC_fill _ _ _ _⟩
def sRowB (M : Mem) (b w : Int32) : Nat → Int32 := sFill (sLitN (M 4) b 8) (sHardOf (M 4) (M 5) b) w (M 3)
def tO (M : Mem) : Prop := ∃ n, M 1 4 = nI n ∧ okT (M 4) (M 5) n
theorem badR_n {M : Mem} {b w p : Int32} (h : tO M) (hb : badR (M 1 4) b w p = false) : okC 0 (sRowB M b w) ∧ ∃ pp, 1 ≤ pp ∧ pp ≤ 9 ∧ p = nI pp := by
  obtain ⟨n, e, h⟩ := h
  simp only [badR, Bool.or_eq_false_iff, Bool.not_eq_false'] at hb
  rw [e] at hb
  refine ⟨okC_fill h hb.1 hb.2.1, ?_⟩
  obtain ⟨x, x1, x2, ex⟩ := outB_n (a := 1) (b := 9) (by decide) hb.2.2 (by decide)
  exact ⟨x, x1, x2, ex⟩

theorem cs_X7_turnTrialTillCome_162 : CSV (xmN YX7_turnTrialTillCome).cls (xmF YX7_turnTrialTillCome) (xmW YX7_turnTrialTillCome) 162 2 YX1_turnOnce := ⟨⟨ml_X7_162, ini_X1, cd_X1_turnOnce, by decide +kernel, by decide⟩, im_X1_turnOnce, se_X1_turnOnce⟩
theorem cs_X7_turnTrialTillCome_190 : CSV (xmN YX7_turnTrialTillCome).cls (xmF YX7_turnTrialTillCome) (xmW YX7_turnTrialTillCome) 190 0 YX1_hasCome := ⟨⟨ml_X7_190, ini_X1, cd_X1_hasCome, by decide +kernel, by decide⟩, im_X1_hasCome, se_X1_hasCome⟩
theorem cs_X7_turnTrialTillCome_274 : CSV (xmN YX7_turnTrialTillCome).cls (xmF YX7_turnTrialTillCome) (xmW YX7_turnTrialTillCome) 274 1 YX1_hardness := ⟨⟨ml_X7_274, ini_X1, cd_X1_hardness, by decide +kernel, by decide⟩, im_X1_hardness, se_X1_hardness⟩
set_option maxRecDepth 100000 in
theorem c_X7_turnTrialTillCome {l : Launch} {g : XG} {M : Mem} {p m0 : Int32} {pp mm T : Nat} (hR : okR (M 2)) (hC : okC T (cX M 16)) (hT : T + mm < 2 ^ 31) (hm2 : mm + 1 < 2 ^ 31) (hp : p = nI pp) (lp : pp ≤ 9) (hm : m0 = nI mm) (hnc : sCome (cX M 16) = false) : Call l g YX7_turnTrialTillCome [.ref (ad g 0), .int p, .int m0] M (PI (fun v M' => v = sTillN (M 2) p (cX M 16) mm 1 ∧ ∃ n, n ≤ mm ∧ M' = putC M 16 (itT (M 2) p n (cX M 16)) ∧ (v ≠ -4 → v = nI n ∧ 1 ≤ n))) := by
  refine call_of (by decide +kernel) (Nat.le_of_ble_eq_true rfl) (fun x hxl F R => ?_)
  subst hxl
  refine ex_iconst (v := 1) F dX7_turnTrialTillCome_0 (by decide) ?_
  refine ex_istore_n F dX7_turnTrialTillCome_1 rfl (by decide) ?_
  have key : ∀ (m j : Nat) (v : Int32), j + m = mm → v = nI (j + 1) → sCome (itT (M 2) p j (cX M 16)) = false → sTillN (M 2) p (cX M 16) m (j + 1) = sTillN (M 2) p (cX M 16) mm 1 → EX x g (xmL YX7_turnTrialTillCome) (putC M 16 (itT (M 2) p j (cX M 16))) 2 [(0, .ref (ad g 0)), (1, .int p), (2, .int m0), (3, .int v)] [] := by
    intro m
    induction m with
    | zero =>
      intro j v hj hv h0 hs
      obtain rfl : j = mm := by omega
      subst hv
      refine ex_iload_n F dX7_turnTrialTillCome_2 rfl rfl ?_
      refine ex_iload_n F dX7_turnTrialTillCome_3 rfl rfl ?_
      refine ex_icmp_gt (t := 61) F dX7_turnTrialTillCome_4 (by decide) (fun _ => ?_) (fun c => absurd (by rw [hm]; exact nI_lt (by omega) (by omega)) c)
      refine ex_bipush (v := -4) F dX7_turnTrialTillCome_61 (by decide) ?_
      exact ex_iret F R dX7_turnTrialTillCome_63 rfl (⟨by rw [← hs]; rfl, j, by omega, rfl, fun h => absurd rfl h⟩)
    | succ m ih =>
      intro j v hj hv h0 hs
      subst hv
      refine ex_iload_n F dX7_turnTrialTillCome_2 rfl rfl ?_
      refine ex_iload_n F dX7_turnTrialTillCome_3 rfl rfl ?_
      refine ex_icmp_gt (t := 61) F dX7_turnTrialTillCome_4 (by decide) (fun c => absurd c (by rw [hm]; exact nI_nlt (by omega) (by omega))) (fun _ => ?_)
      refine ex_aload_n F dX7_turnTrialTillCome_7 rfl rfl ?_
      refine gf_7_3 F dX7_turnTrialTillCome_8 fl_X7_30 ?_
      refine ex_aload_n F dX7_turnTrialTillCome_11 rfl rfl ?_
      refine gf_7_0 F dX7_turnTrialTillCome_12 fl_X7_10 ?_
      refine ex_iload_n F dX7_turnTrialTillCome_15 rfl rfl ?_
      refine ex_callVi F (c_X1_turnOnce (M := putC M 16 _) (k := 16) (by decide) hR) dX7_turnTrialTillCome_16 cs_X7_turnTrialTillCome_162 (ob_1 (by decide)) rfl rfl rfl rfl (Nat.le_of_ble_eq_true rfl) (fun v16 M16 h16 => ?_)
      obtain ⟨e16, q16⟩ := h16
      rw [cX_putC, putC_putC] at q16
      rw [cX_putC] at e16
      have q16 : M16 = putC M 16 (itT (M 2) p (j + 1) (cX M 16)) := q16
      have e16 : v16 = b2i (!sSwell (M 2) (itT (M 2) p j (cX M 16))) := e16
      rw [q16]
      clear q16
      subst e16
      refine ex_istore F dX7_turnTrialTillCome_19 (by decide) ?_
      refine ex_aload_n F dX7_turnTrialTillCome_21 rfl rfl ?_
      refine gf_7_3 F dX7_turnTrialTillCome_22 fl_X7_30 ?_
      refine ex_callVi F (c_X1_hasCome (k := 16) (by decide)) dX7_turnTrialTillCome_25 cs_X7_turnTrialTillCome_190 (ob_1 (by decide)) rfl rfl rfl rfl (Nat.le_of_ble_eq_true rfl) (fun v25 M25 h25 => ?_)
      rw [cX_putC] at h25
      obtain ⟨rfl, q25⟩ := h25
      rw [q25]
      clear q25
      refine ex_if_eq (t := 33) F dX7_turnTrialTillCome_28 (by decide) (fun c28 => ?_) (fun c28 => ?_)
      · refine ex_iload F dX7_turnTrialTillCome_33 rfl ?_
        refine ex_if_eq (t := 52) F dX7_turnTrialTillCome_35 (by decide) (fun c35 => ?_) (fun c35 => ?_)
        · refine ex_bipush (v := -4) F dX7_turnTrialTillCome_52 (by decide) ?_
          exact ex_iret F R dX7_turnTrialTillCome_54 rfl (⟨by rw [← hs]; exact (till_stuck hR hC hp lp (by omega) h0 (b2i_0.mp c28) (Or.inl (by simpa using b2i_0.mp c35)) (m + 1)).symm, j + 1, by omega, rfl, fun h => absurd rfl h⟩)
        · refine ex_aload_n F dX7_turnTrialTillCome_38 rfl rfl ?_
          refine gf_7_3 F dX7_turnTrialTillCome_39 fl_X7_30 ?_
          refine ex_aload_n F dX7_turnTrialTillCome_42 rfl rfl ?_
          refine gf_7_0 F dX7_turnTrialTillCome_43 fl_X7_10 ?_
          refine ex_callVi F (c_X1_hardness (k := 16) (by decide)) dX7_turnTrialTillCome_46 cs_X7_turnTrialTillCome_274 (ob_1 (by decide)) rfl rfl rfl rfl (Nat.le_of_ble_eq_true rfl) (fun v46 M46 h46 => ?_)
          rw [cX_putC] at h46
          obtain ⟨e46, q46⟩ := h46
          have e46 : v46 = sHard (M 2) (itT (M 2) p (j + 1) (cX M 16)) := e46
          subst e46
          rw [q46]
          clear q46
          refine ex_if_ne (t := 55) F dX7_turnTrialTillCome_49 (by decide) (fun c49 => ?_) (fun c49 => ?_)
          · refine ex_iinc (w := _ + 1) F dX7_turnTrialTillCome_55 rfl rfl (by decide) ?_
            refine ex_goto (t := 2) F dX7_turnTrialTillCome_58 (by decide) ?_
            refine ex_weak2 (ih (j + 1) _ (by omega) (nI_1 (j + 1)) (b2i_0.mp c28) ?_) ⟨rfl, rfl, rfl, rfl, trivial⟩
            rw [← hs, sTillN, if_neg (by rw [b2i_0.mp c28]; decide)]
          · refine ex_bipush (v := -4) F dX7_turnTrialTillCome_52 (by decide) ?_
            exact ex_iret F R dX7_turnTrialTillCome_54 rfl (⟨by rw [← hs]; exact (till_stuck hR hC hp lp (by omega) h0 (b2i_0.mp c28) (Or.inr c49) (m + 1)).symm, j + 1, by omega, rfl, fun h => absurd rfl h⟩)
      · refine ex_iload_n F dX7_turnTrialTillCome_31 rfl rfl ?_
        exact ex_iret F R dX7_turnTrialTillCome_32 rfl (⟨by rw [← hs, sTillN, if_pos (b2i_1.mp c28)], j + 1, by omega, rfl, fun _ => ⟨rfl, by omega⟩⟩)
  exact ex_M (putC_cX M 16).symm (ex_weak2 (key mm 0 _ (by omega) rfl hnc rfl) ⟨rfl, rfl, rfl, rfl, trivial⟩)
theorem cs_X7_comes_159 : CSV (xmN YX7_comes).cls (xmF YX7_comes) (xmW YX7_comes) 159 3 YX7_isBadRun := ⟨⟨ml_X7_159, ini_X7, cd_X7_isBadRun, by decide +kernel, by decide⟩, im_X7_isBadRun, se_X7_isBadRun⟩
theorem cs_X7_comes_108 : CSV (xmN YX7_comes).cls (xmF YX7_comes) (xmW YX7_comes) 108 3 YX1_fillWith := ⟨⟨ml_X7_108, ini_X1, cd_X1_fillWith, by decide +kernel, by decide⟩, im_X1_fillWith, se_X1_fillWith⟩
theorem cs_X7_comes_166 : CSV (xmN YX7_comes).cls (xmF YX7_comes) (xmW YX7_comes) 166 2 YX7_turnTrialTillCome := ⟨⟨ml_X7_166, ini_X7, cd_X7_turnTrialTillCome, by decide +kernel, by decide⟩, im_X7_turnTrialTillCome, se_X7_turnTrialTillCome⟩
set_option maxRecDepth 100000 in
theorem c_X7_comes {l : Launch} {g : XG} {M : Mem} {b w0 p : Int32} (hR : okR (M 2)) (hO : tO M) (h16 : zC (cX M 16)) : Call l g YX7_comes [.ref (ad g 0), .int b, .int w0, .int p] M (PI (fun v M' => v = (if badR (M 1 4) b w0 p = true then -1 else sTillN (M 2) p (sRowB M b w0) 400 1) ∧ jX M M')) := by
  refine call_of (by decide +kernel) (Nat.le_of_ble_eq_true rfl) (fun x hxl F R => ?_)
  subst hxl
  refine ex_aload_n F dX7_comes_0 rfl rfl ?_
  refine ex_iload_n F dX7_comes_1 rfl rfl ?_
  refine ex_iload_n F dX7_comes_2 rfl rfl ?_
  refine ex_iload_n F dX7_comes_3 rfl rfl ?_
  refine ex_callVi F (c_X7_isBadRun) dX7_comes_4 cs_X7_comes_159 ob_7 rfl rfl rfl rfl (Nat.le_of_ble_eq_true rfl) (fun v4 M4 h4 => ?_)
  obtain ⟨rfl, q4⟩ := h4
  rw [q4]
  clear q4
  refine ex_if_eq (t := 12) F dX7_comes_7 (by decide) (fun c7 => ?_) (fun c7 => ?_)
  · refine ex_aload_n F dX7_comes_12 rfl rfl ?_
    refine gf_7_3 F dX7_comes_13 fl_X7_30 ?_
    refine ex_aload_n F dX7_comes_16 rfl rfl ?_
    refine gf_7_0 F dX7_comes_17 fl_X7_10 ?_
    refine ex_iload_n F dX7_comes_20 rfl rfl ?_
    refine ex_iload_n F dX7_comes_21 rfl rfl ?_
    obtain ⟨hCf, pp, -, lp, hp⟩ := badR_n hO (b2i_0.mp c7)
    refine ex_callVv F (c_X1_fillWith (k := 16) (by decide)) dX7_comes_22 cs_X7_comes_108 (ob_1 (by decide)) rfl rfl rfl rfl (Nat.le_of_ble_eq_true rfl) (fun M22 h22 => ?_)
    rw [fill_z h16] at h22
    have h22 : M22 = putC M 16 (sRowB M b w0) := h22
    rw [h22]
    clear h22
    refine ex_aload_n F dX7_comes_25 rfl rfl ?_
    refine ex_iload_n F dX7_comes_26 rfl rfl ?_
    refine ex_sipush (v := 400) F dX7_comes_27 (by decide) ?_
    refine ex_callVi F (c_X7_turnTrialTillCome (M := putC M 16 _) (mm := 400) (T := 0) hR (by rw [cX_putC]; exact hCf) (by decide) (by decide) hp lp rfl (by rw [cX_putC]; rfl)) dX7_comes_30 cs_X7_comes_166 ob_7 rfl rfl rfl rfl (Nat.le_of_ble_eq_true rfl) (fun v30 M30 h30 => ?_)
    obtain ⟨e30, n30, -, q30, -⟩ := h30
    rw [cX_putC] at e30
    rw [cX_putC, putC_putC] at q30
    exact ex_iret F R dX7_comes_33 rfl (⟨by rw [if_neg (by rw [b2i_0.mp c7]; decide)]; exact e30, by rw [q30]; exact jX_put (zC_it _ hCf.2.2.2.2)⟩)
  · refine ex_iconst (v := -1) F dX7_comes_10 (by decide) ?_
    exact ex_iret F R dX7_comes_11 rfl (⟨by rw [if_pos (b2i_1.mp c7)], jX_rf h16⟩)
end
section
def sRunV (r c : Nat → Int32) (w : Int32) : Int32 := if w < 10 then sTell r c w else sDropC c (w - 10)
def sDeed (d : Nat) (c : Nat → Int32) : Nat → Int32 := if d = 1 then sHalfN 7 c else if d = 2 then upd c 1 (if c 1 + 20 < 400 then c 1 + 20 else 400) else if d = 3 then upd c 1 (if 0 < c 1 - 20 then c 1 - 20 else 0) else c
theorem deed_o {d : Nat} {c : Nat → Int32} {j : Nat} (h1 : j ≠ 1) (h0 : j ≠ 0) (h3 : j ≠ 3) (h6 : j < 6 ∨ 13 ≤ j) : sDeed d c j = c j := by
  unfold sDeed
  split
  · unfold sHalfN; rw [if_neg (by omega)]
  · split
    · exact pk_un h1
    · split
      · exact pk_un h1
      · rfl
theorem okC_deed {T d : Nat} {c : Nat → Int32} (h : okC T c) : okC T (sDeed d c) := by
  obtain ⟨⟨w, lw, hw⟩, ⟨h', lh, hh⟩, ⟨t, lt, ht⟩, h5, hz⟩ := h
  refine ⟨?_, ⟨h', lh, by rw [deed_o (by decide) (by decide) (by decide) (by decide)]; exact hh⟩, ⟨t, lt, by rw [deed_o (by decide) (by decide) (by decide) (by decide)]; exact ht⟩, by rw [deed_o (by decide) (by decide) (by decide) (by decide)]; exact h5, fun j hj => by rw [deed_o (by omega) (by omega) (by omega) (Or.inr hj)]; exact hz j hj⟩
  unfold sDeed
  split
  · exact ⟨w, lw, by rw [show sHalfN 7 c 1 = c 1 from rfl]; exact hw⟩
  · split
    · rw [pk_us, hw, show (20 : Int32) = nI 20 from rfl, nI_add]
      by_cases q : w + 20 < 400
      · exact ⟨w + 20, by omega, by rw [if_pos (show nI (w + 20) < 400 from nI_lt (b := 400) q (by decide))]⟩
      · exact ⟨400, by decide, by rw [if_neg (show ¬ nI (w + 20) < 400 from nI_nlt (a := w + 20) (b := 400) (by omega) (by omega))]; rfl⟩
    · split
      · rw [pk_us, hw]
        by_cases q : 20 < w
        · have e : nI w - 20 = nI (w - 20) := pk_sub (b := 20) (by omega)
          rw [e]
          exact ⟨w - 20, by omega, by rw [if_pos (show 0 < nI (w - 20) from nI_lt (a := 0) (by omega) (by omega))]⟩
        · refine ⟨0, by decide, ?_⟩
          rw [if_neg ?_]
          · rfl
          · intro q2
            have e : (nI w - 20).toInt = (w : Int) - 20 := pk_sub_toInt (b := 20) (by omega) (by decide)
            have := Int32.lt_iff_toInt_lt.mp q2
            rw [e] at this
            simp at this
            omega
      · exact ⟨w, lw, hw⟩
theorem come_deed {d : Nat} {c : Nat → Int32} : sCome (sDeed d c) = sCome c := sCome_congr (deed_o (by decide) (by decide) (by decide) (by decide))
def sNextN (r : Nat → Int32) (p : Int32) (c : Nat → Int32) : Nat → Int32 × Int32
  | 0 => (-4, -4)
  | d + 1 => if sTillN r p (sDeed d c) 400 1 = -4 then sNextN r p c d else if (sNextN r p c d).1 = -4 ∨ sTillN r p (sDeed d c) 400 1 < (sNextN r p c d).1 then (sTillN r p (sDeed d c) 400 1, nI d) else sNextN r p c d
def putB (M : Mem) (f : Nat → Int32) : Mem := fun q => if q = 18 then f else M q
theorem putB_mu (M : Mem) (j : Nat) (y : Int32) : mu M 18 j y = putB M (upd (M 18) j y) := by
  funext q
  by_cases h : q = 18
  · subst h; simp [mu, putB]
  · simp [mu, putB, h]
theorem putB_B (M : Mem) (f h : Nat → Int32) : putB (putB M f) h = putB M h := by
  funext q
  by_cases e : q = 18 <;> simp [putB, e]
theorem putB_rd (M : Mem) (f : Nat → Int32) : putB M f 18 = f := by simp [putB]
theorem putB_id (M : Mem) : putB M (M 18) = M := by
  funext q
  by_cases e : q = 18
  · subst e; simp [putB]
  · simp [putB, e]
def sOffer (f : Nat → Int32) (w p t l : Int32) : Nat → Int32 := if ¬ f 0 = 0 ∧ (f 4 < l ∨ (l = f 4 ∧ ¬ t < f 3)) then f else upd (upd (upd (upd (upd f 0 1) 1 w) 2 p) 3 t) 4 l
def sBestTell (f : Nat → Int32) (w : Int32) : Int32 := if w = 0 then f 1 else if w = 1 then f 2 else if w = 2 then f 3 else f 4

theorem cs_X7_run_159 : CSV (xmN YX7_run).cls (xmF YX7_run) (xmW YX7_run) 159 3 YX7_isBadRun := ⟨⟨ml_X7_159, ini_X7, cd_X7_isBadRun, by decide +kernel, by decide⟩, im_X7_isBadRun, se_X7_isBadRun⟩
theorem cs_X7_run_85 : CSS (xmN YX7_run).cls (xmF YX7_run) (xmW YX7_run) 85 3 YX7_outside := ⟨⟨ml_X7_85, ini_X7, cd_X7_outside, by decide +kernel, by decide⟩, st_X7_outside⟩
theorem cs_X7_run_108 : CSV (xmN YX7_run).cls (xmF YX7_run) (xmW YX7_run) 108 3 YX1_fillWith := ⟨⟨ml_X7_108, ini_X1, cd_X1_fillWith, by decide +kernel, by decide⟩, im_X1_fillWith, se_X1_fillWith⟩
theorem cs_X7_run_162 : CSV (xmN YX7_run).cls (xmF YX7_run) (xmW YX7_run) 162 2 YX1_turnOnce := ⟨⟨ml_X7_162, ini_X1, cd_X1_turnOnce, by decide +kernel, by decide⟩, im_X1_turnOnce, se_X1_turnOnce⟩
theorem cs_X7_run_151 : CSV (xmN YX7_run).cls (xmF YX7_run) (xmW YX7_run) 151 2 YX1_tell := ⟨⟨ml_X7_151, ini_X1, cd_X1_tell, by decide +kernel, by decide⟩, im_X1_tell, se_X1_tell⟩
theorem cs_X7_run_155 : CSV (xmN YX7_run).cls (xmF YX7_run) (xmW YX7_run) 155 1 YX1_dropsOf := ⟨⟨ml_X7_155, ini_X1, cd_X1_dropsOf, by decide +kernel, by decide⟩, im_X1_dropsOf, se_X1_dropsOf⟩
set_option maxRecDepth 100000 in
theorem c_X7_run {l : Launch} {g : XG} {M : Mem} {b w0 p n0 wh : Int32} (hR : okR (M 2)) (hO : tO M) (h16 : zC (cX M 16)) : Call l g YX7_run [.ref (ad g 0), .int b, .int w0, .int p, .int n0, .int wh] M (PI (fun v M' => v = (if (badR (M 1 4) b w0 p || (outB n0 0 400 || outB wh 0 16)) = true then -1 else sRunV (M 2) (itT (M 2) p n0.toNatClampNeg (sRowB M b w0)) wh) ∧ jX M M')) := by
  refine call_of (by decide +kernel) (Nat.le_of_ble_eq_true rfl) (fun x hxl F R => ?_)
  subst hxl
  refine ex_aload_n F dX7_run_0 rfl rfl ?_
  refine ex_iload_n F dX7_run_1 rfl rfl ?_
  refine ex_iload_n F dX7_run_2 rfl rfl ?_
  refine ex_iload_n F dX7_run_3 rfl rfl ?_
  refine ex_callVi F (c_X7_isBadRun) dX7_run_4 cs_X7_run_159 ob_7 rfl rfl rfl rfl (Nat.le_of_ble_eq_true rfl) (fun v4 M4 h4 => ?_)
  obtain ⟨rfl, q4⟩ := h4
  rw [q4]
  clear q4
  refine ex_if_ne (t := 33) F dX7_run_7 (by decide) (fun c7 => ?_) (fun c7 => ?_)
  · refine ex_iconst (v := -1) F dX7_run_33 (by decide) ?_
    exact ex_iret F R dX7_run_34 rfl (⟨by simp [b2i_1.mp c7], jX_rf h16⟩)
  · refine ex_iload F dX7_run_10 rfl ?_
    refine ex_iconst (v := 0) F dX7_run_12 (by decide) ?_
    refine ex_sipush (v := 400) F dX7_run_13 (by decide) ?_
    refine ex_callSi F (c_X7_outside) dX7_run_16 cs_X7_run_85 rfl rfl (Nat.le_of_ble_eq_true rfl) (fun v16 M16 h16 => ?_)
    obtain ⟨rfl, q16⟩ := h16
    rw [q16]
    clear q16
    refine ex_if_ne (t := 33) F dX7_run_19 (by decide) (fun c19 => ?_) (fun c19 => ?_)
    · refine ex_iconst (v := -1) F dX7_run_33 (by decide) ?_
      exact ex_iret F R dX7_run_34 rfl (⟨by simp [b2i_0.mp c7, b2i_1.mp c19], jX_rf h16⟩)
    · refine ex_iload F dX7_run_22 rfl ?_
      refine ex_iconst (v := 0) F dX7_run_24 (by decide) ?_
      refine ex_bipush (v := 16) F dX7_run_25 (by decide) ?_
      refine ex_callSi F (c_X7_outside) dX7_run_27 cs_X7_run_85 rfl rfl (Nat.le_of_ble_eq_true rfl) (fun v27 M27 h27 => ?_)
      obtain ⟨rfl, q27⟩ := h27
      rw [q27]
      clear q27
      refine ex_if_eq (t := 35) F dX7_run_30 (by decide) (fun c30 => ?_) (fun c30 => ?_)
      · refine ex_aload_n F dX7_run_35 rfl rfl ?_
        refine gf_7_3 F dX7_run_36 fl_X7_30 ?_
        refine ex_aload_n F dX7_run_39 rfl rfl ?_
        refine gf_7_0 F dX7_run_40 fl_X7_10 ?_
        refine ex_iload_n F dX7_run_43 rfl rfl ?_
        refine ex_iload_n F dX7_run_44 rfl rfl ?_
        obtain ⟨hCf, pp, -, lp, hp⟩ := badR_n hO (b2i_0.mp c7)
        obtain ⟨n, -, ln, hn⟩ := outB_n (a := 0) (b := 400) (by decide) (b2i_0.mp c19) (by decide)
        have en : n0.toNatClampNeg = n := by rw [hn]; exact nI_clamp (by omega)
        refine ex_callVv F (c_X1_fillWith (k := 16) (by decide)) dX7_run_45 cs_X7_run_108 (ob_1 (by decide)) rfl rfl rfl rfl (Nat.le_of_ble_eq_true rfl) (fun M45 h45 => ?_)
        rw [fill_z h16] at h45
        have h45 : M45 = putC M 16 (sRowB M b w0) := h45
        rw [h45]
        clear h45
        refine ex_iconst (v := 0) F dX7_run_48 (by decide) ?_
        refine ex_istore F dX7_run_49 (by decide) ?_
        have key : ∀ (m i : Nat) (v : Int32), i + m = n → v = nI i → EX x g (xmL YX7_run) (putC M 16 (itT (M 2) p i (sRowB M b w0))) 51 [(0, .ref (ad g 0)), (1, .int b), (2, .int w0), (3, .int p), (4, .int n0), (5, .int wh), (6, .int v)] [] := by
          intro m
          induction m with
          | zero =>
            intro i v hi hv
            obtain rfl : i = n := by omega
            subst hv
            refine ex_iload F dX7_run_51 rfl ?_
            refine ex_iload F dX7_run_53 rfl ?_
            refine ex_icmp_ge (t := 77) F dX7_run_55 (by decide) (fun _ => ?_) (fun c => absurd (by rw [hn]; exact Int32.le_refl _) c)
            refine ex_iload F dX7_run_77 rfl ?_
            refine ex_bipush (v := 10) F dX7_run_79 (by decide) ?_
            refine ex_icmp_ge (t := 100) F dX7_run_81 (by decide) (fun c81 => ?_) (fun c81 => ?_)
            · refine ex_aload_n F dX7_run_100 rfl rfl ?_
              refine gf_7_3 F dX7_run_101 fl_X7_30 ?_
              refine ex_iload F dX7_run_104 rfl ?_
              refine ex_bipush (v := 10) F dX7_run_106 (by decide) ?_
              refine ex_isub F dX7_run_108 ?_
              refine ex_callVi F (c_X1_dropsOf (k := 16) (by decide)) dX7_run_109 cs_X7_run_155 (ob_1 (by decide)) rfl rfl rfl rfl (Nat.le_of_ble_eq_true rfl) (fun v109 M109 h109 => ?_)
              rw [cX_putC] at h109
              obtain ⟨e109, q109⟩ := h109
              rw [q109]
              clear q109
              exact ex_iret F R dX7_run_112 rfl (⟨by rw [if_neg (by simp [b2i_0.mp c7, b2i_0.mp c19, b2i_0.mp c30]), en, sRunV, if_neg (Int32.not_lt.mpr c81)]; exact e109, jX_put (zC_it _ hCf.2.2.2.2)⟩)
            · refine ex_aload_n F dX7_run_84 rfl rfl ?_
              refine gf_7_3 F dX7_run_85 fl_X7_30 ?_
              refine ex_aload_n F dX7_run_88 rfl rfl ?_
              refine gf_7_0 F dX7_run_89 fl_X7_10 ?_
              refine ex_iload F dX7_run_92 rfl ?_
              refine ex_callVi F (c_X1_tell (M := putC M 16 _) (k := 16) (by decide) hR) dX7_run_94 cs_X7_run_151 (ob_1 (by decide)) rfl rfl rfl rfl (Nat.le_of_ble_eq_true rfl) (fun v94 M94 h94 => ?_)
              rw [cX_putC] at h94
              obtain ⟨e94, q94⟩ := h94
              rw [q94]
              clear q94
              refine ex_goto (t := 112) F dX7_run_97 (by decide) ?_
              exact ex_iret F R dX7_run_112 rfl (⟨by rw [if_neg (by simp [b2i_0.mp c7, b2i_0.mp c19, b2i_0.mp c30]), en, sRunV, if_pos (Int32.not_le.mp c81)]; exact e94, jX_put (zC_it _ hCf.2.2.2.2)⟩)
          | succ m ih =>
            intro i v hi hv
            subst hv
            refine ex_iload F dX7_run_51 rfl ?_
            refine ex_iload F dX7_run_53 rfl ?_
            refine ex_icmp_ge (t := 77) F dX7_run_55 (by decide) (fun c => absurd c (by rw [hn]; exact nI_ge (by omega) (by omega))) (fun _ => ?_)
            refine ex_aload_n F dX7_run_58 rfl rfl ?_
            refine gf_7_3 F dX7_run_59 fl_X7_30 ?_
            refine ex_aload_n F dX7_run_62 rfl rfl ?_
            refine gf_7_0 F dX7_run_63 fl_X7_10 ?_
            refine ex_iload_n F dX7_run_66 rfl rfl ?_
            refine ex_callVi F (c_X1_turnOnce (M := putC M 16 _) (k := 16) (by decide) hR) dX7_run_67 cs_X7_run_162 (ob_1 (by decide)) rfl rfl rfl rfl (Nat.le_of_ble_eq_true rfl) (fun v67 M67 h67 => ?_)
            obtain ⟨-, q67⟩ := h67
            rw [cX_putC, putC_putC] at q67
            have q67 : M67 = putC M 16 (itT (M 2) p (i + 1) (sRowB M b w0)) := q67
            rw [q67]
            clear q67
            refine ex_pop F dX7_run_70 rfl ?_
            refine ex_iinc (w := _ + 1) F dX7_run_71 rfl rfl (by decide) ?_
            refine ex_goto (t := 51) F dX7_run_74 (by decide) ?_
            exact ex_weak2 (ih (i + 1) _ (by omega) (nI_1 i)) ⟨rfl, rfl, rfl, rfl, rfl, rfl, rfl, trivial⟩
        exact ex_weak2 (key n 0 _ (by omega) rfl) ⟨rfl, rfl, rfl, rfl, rfl, rfl, rfl, trivial⟩
      · refine ex_iconst (v := -1) F dX7_run_33 (by decide) ?_
        exact ex_iret F R dX7_run_34 rfl (⟨by simp [b2i_0.mp c7, b2i_0.mp c19, b2i_1.mp c30], jX_rf h16⟩)
theorem eqd {d0 : Int32} {d k : Nat} (h : d0 = nI d) (hd : d < 2 ^ 31) (hk : k < 2 ^ 31) {z : Int32} (e : d0 = z) (hz : z = nI k := by rfl) : d = k := by
  rw [h, hz] at e
  exact (nI_eq hd hk).mp e
theorem ned {d0 : Int32} {d k : Nat} (h : d0 = nI d) {z : Int32} (e : ¬ d0 = z) (hz : z = nI k := by rfl) : d ≠ k := fun q => e (by rw [h, hz, q])
theorem cs_X7_tryDeed_197 : CSV (xmN YX7_tryDeed).cls (xmF YX7_tryDeed) (xmW YX7_tryDeed) 197 1 YX1_becomeLike := ⟨⟨ml_X7_197, ini_X1, cd_X1_becomeLike, by decide +kernel, by decide⟩, im_X1_becomeLike, se_X1_becomeLike⟩
theorem cs_X7_tryDeed_148 : CSV (xmN YX7_tryDeed).cls (xmF YX7_tryDeed) (xmW YX7_tryDeed) 148 0 YX1_halve := ⟨⟨ml_X7_148, ini_X1, cd_X1_halve, by decide +kernel, by decide⟩, im_X1_halve, se_X1_halve⟩
set_option maxRecDepth 100000 in
theorem c_X7_tryDeed {l : Launch} {g : XG} {M : Mem} {d0 : Int32} {d : Nat} (hd : d0 = nI d) (ld : d < 4) (h14 : zC (cX M 14)) (h16 : zC (cX M 16)) : Call l g YX7_tryDeed [.ref (ad g 0), .int d0] M (PV (fun M' => M' = putC M 16 (sDeed d (cX M 14)))) := by
  refine call_of (by decide +kernel) (Nat.le_of_ble_eq_true rfl) (fun x hxl F R => ?_)
  subst hxl
  refine ex_aload_n F dX7_tryDeed_0 rfl rfl ?_
  refine gf_7_3 F dX7_tryDeed_1 fl_X7_30 ?_
  refine ex_aload_n F dX7_tryDeed_4 rfl rfl ?_
  refine gf_7_2 F dX7_tryDeed_5 fl_X7_26 ?_
  refine ex_callVv F (c_X1_becomeLike (k := 16) (q := 14) (by decide) (by decide) (by decide)) dX7_tryDeed_8 cs_X7_tryDeed_197 (ob_1 (by decide)) rfl rfl rfl rfl (Nat.le_of_ble_eq_true rfl) (fun M8 h8 => ?_)
  rw [cpC_z h14 h16] at h8
  rw [h8]
  clear h8
  refine ex_iload_n F dX7_tryDeed_11 rfl rfl ?_
  refine ex_iconst (v := 1) F dX7_tryDeed_12 (by decide) ?_
  refine ex_icmp_ne (t := 26) F dX7_tryDeed_13 (by decide) (fun c13 => ?_) (fun c13 => ?_)
  · refine ex_iload_n F dX7_tryDeed_26 rfl rfl ?_
    refine ex_iconst (v := 2) F dX7_tryDeed_27 (by decide) ?_
    refine ex_icmp_ne (t := 57) F dX7_tryDeed_28 (by decide) (fun c28 => ?_) (fun c28 => ?_)
    · refine ex_iload_n F dX7_tryDeed_57 rfl rfl ?_
      refine ex_iconst (v := 3) F dX7_tryDeed_58 (by decide) ?_
      refine ex_icmp_ne (t := 83) F dX7_tryDeed_59 (by decide) (fun c59 => ?_) (fun c59 => ?_)
      · exact ex_vret F R dX7_tryDeed_83 rfl (by have a1 := ned (k := 1) hd c13; have a2 := ned (k := 2) hd c28; have a3 := ned (k := 3) hd c59; have hk : d = 0 := (by omega); subst hk; rfl)
      · refine ex_aload_n F dX7_tryDeed_62 rfl rfl ?_
        refine gf_7_3 F dX7_tryDeed_63 fl_X7_30 ?_
        refine ex_iconst (v := 0) F dX7_tryDeed_66 (by decide) ?_
        refine ex_aload_n F dX7_tryDeed_67 rfl rfl ?_
        refine gf_7_3 F dX7_tryDeed_68 fl_X7_30 ?_
        refine gf_1_2 (by decide) F dX7_tryDeed_71 fl_X7_68 ?_
        refine ex_bipush (v := 20) F dX7_tryDeed_74 (by decide) ?_
        refine ex_isub F dX7_tryDeed_76 ?_
        refine ex_mmax F dX7_tryDeed_77 ml_X7_290 st_max ini_math cd_max (by decide) (Nat.le_of_ble_eq_true rfl) ?_
        refine pf_1_2 (by decide) F dX7_tryDeed_80 fl_X7_68 ?_
        exact ex_vret F R dX7_tryDeed_83 rfl (by have hk : d = 3 := eqd hd (by omega) (by decide) c59; subst hk; simp [sDeed, mu_c1, mu_c2, mu_c3, mu_c4, mu_c5, mu_c6, putC_putC, cX_putC, putC_cX, rd_1, rd_2, rd_3, rd_4, rd_5, rd_6])
    · refine ex_aload_n F dX7_tryDeed_31 rfl rfl ?_
      refine gf_7_3 F dX7_tryDeed_32 fl_X7_30 ?_
      refine ex_sipush (v := 400) F dX7_tryDeed_35 (by decide) ?_
      refine ex_aload_n F dX7_tryDeed_38 rfl rfl ?_
      refine gf_7_3 F dX7_tryDeed_39 fl_X7_30 ?_
      refine gf_1_2 (by decide) F dX7_tryDeed_42 fl_X7_68 ?_
      refine ex_bipush (v := 20) F dX7_tryDeed_45 (by decide) ?_
      refine ex_iadd F dX7_tryDeed_47 ?_
      refine ex_mmin F dX7_tryDeed_48 ml_X7_285 st_min ini_math cd_min (by decide) (Nat.le_of_ble_eq_true rfl) ?_
      refine pf_1_2 (by decide) F dX7_tryDeed_51 fl_X7_68 ?_
      refine ex_goto (t := 83) F dX7_tryDeed_54 (by decide) ?_
      exact ex_vret F R dX7_tryDeed_83 rfl (by have hk : d = 2 := eqd hd (by omega) (by decide) c28; subst hk; simp [sDeed, mu_c1, mu_c2, mu_c3, mu_c4, mu_c5, mu_c6, putC_putC, cX_putC, putC_cX, rd_1, rd_2, rd_3, rd_4, rd_5, rd_6])
  · refine ex_aload_n F dX7_tryDeed_16 rfl rfl ?_
    refine gf_7_3 F dX7_tryDeed_17 fl_X7_30 ?_
    refine ex_callVv F (c_X1_halve (k := 16) (by decide)) dX7_tryDeed_20 cs_X7_tryDeed_148 (ob_1 (by decide)) rfl rfl rfl rfl (Nat.le_of_ble_eq_true rfl) (fun M20 h20 => ?_)
    rw [cX_putC, putC_putC] at h20
    rw [h20]
    clear h20
    refine ex_goto (t := 83) F dX7_tryDeed_23 (by decide) ?_
    exact ex_vret F R dX7_tryDeed_83 rfl (by have hk : d = 1 := eqd hd (by omega) (by decide) c13; subst hk; simp [sDeed, mu_c1, mu_c2, mu_c3, mu_c4, mu_c5, mu_c6, putC_putC, cX_putC, putC_cX, rd_1, rd_2, rd_3, rd_4, rd_5, rd_6])
theorem cs_X7_next_85 : CSS (xmN YX7_next).cls (xmF YX7_next) (xmW YX7_next) 85 3 YX7_outside := ⟨⟨ml_X7_85, ini_X7, cd_X7_outside, by decide +kernel, by decide⟩, st_X7_outside⟩
theorem cs_X7_next_190 : CSV (xmN YX7_next).cls (xmF YX7_next) (xmW YX7_next) 190 0 YX1_hasCome := ⟨⟨ml_X7_190, ini_X1, cd_X1_hasCome, by decide +kernel, by decide⟩, im_X1_hasCome, se_X1_hasCome⟩
theorem cs_X7_next_194 : CSV (xmN YX7_next).cls (xmF YX7_next) (xmW YX7_next) 194 1 YX7_tryDeed := ⟨⟨ml_X7_194, ini_X7, cd_X7_tryDeed, by decide +kernel, by decide⟩, im_X7_tryDeed, se_X7_tryDeed⟩
theorem cs_X7_next_166 : CSV (xmN YX7_next).cls (xmF YX7_next) (xmW YX7_next) 166 2 YX7_turnTrialTillCome := ⟨⟨ml_X7_166, ini_X7, cd_X7_turnTrialTillCome, by decide +kernel, by decide⟩, im_X7_turnTrialTillCome, se_X7_turnTrialTillCome⟩
set_option maxRecDepth 100000 in
theorem c_X7_next {l : Launch} {g : XG} {M : Mem} {p wh : Int32} {T : Nat} (hR : okR (M 2)) (hC : okC T (cX M 14)) (hT : T + 400 < 2 ^ 31) (h16 : zC (cX M 16)) : Call l g YX7_next [.ref (ad g 0), .int p, .int wh] M (PI (fun v M' => v = (if (outB p 1 9 || outB wh 0 1) = true then -1 else if sCome (cX M 14) = true then -2 else if wh = 0 then (sNextN (M 2) p (cX M 14) 4).2 else (sNextN (M 2) p (cX M 14) 4).1) ∧ jX M M')) := by
  refine call_of (by decide +kernel) (Nat.le_of_ble_eq_true rfl) (fun x hxl F R => ?_)
  subst hxl
  refine ex_iload_n F dX7_next_0 rfl rfl ?_
  refine ex_iconst (v := 1) F dX7_next_1 (by decide) ?_
  refine ex_bipush (v := 9) F dX7_next_2 (by decide) ?_
  refine ex_callSi F (c_X7_outside) dX7_next_4 cs_X7_next_85 rfl rfl (Nat.le_of_ble_eq_true rfl) (fun v4 M4 h4 => ?_)
  obtain ⟨rfl, q4⟩ := h4
  rw [q4]
  clear q4
  refine ex_if_ne (t := 19) F dX7_next_7 (by decide) (fun c7 => ?_) (fun c7 => ?_)
  · refine ex_iconst (v := -1) F dX7_next_19 (by decide) ?_
    exact ex_iret F R dX7_next_20 rfl (⟨by simp [b2i_1.mp c7], jX_rf h16⟩)
  · refine ex_iload_n F dX7_next_10 rfl rfl ?_
    refine ex_iconst (v := 0) F dX7_next_11 (by decide) ?_
    refine ex_iconst (v := 1) F dX7_next_12 (by decide) ?_
    refine ex_callSi F (c_X7_outside) dX7_next_13 cs_X7_next_85 rfl rfl (Nat.le_of_ble_eq_true rfl) (fun v13 M13 h13 => ?_)
    obtain ⟨rfl, q13⟩ := h13
    rw [q13]
    clear q13
    refine ex_if_eq (t := 21) F dX7_next_16 (by decide) (fun c16 => ?_) (fun c16 => ?_)
    · refine ex_aload_n F dX7_next_21 rfl rfl ?_
      refine gf_7_2 F dX7_next_22 fl_X7_26 ?_
      refine ex_callVi F (c_X1_hasCome (k := 14) (by decide)) dX7_next_25 cs_X7_next_190 (ob_1 (by decide)) rfl rfl rfl rfl (Nat.le_of_ble_eq_true rfl) (fun v25 M25 h25 => ?_)
      obtain ⟨rfl, q25⟩ := h25
      rw [q25]
      clear q25
      refine ex_if_eq (t := 34) F dX7_next_28 (by decide) (fun c28 => ?_) (fun c28 => ?_)
      · obtain ⟨pp, -, lp, hp⟩ := outB_n (a := 1) (b := 9) (by decide) (b2i_0.mp c7) (by decide)
        refine ex_bipush (v := -4) F dX7_next_34 (by decide) ?_
        refine ex_istore_n F dX7_next_36 rfl (by decide) ?_
        refine ex_bipush (v := -4) F dX7_next_37 (by decide) ?_
        refine ex_istore F dX7_next_39 (by decide) ?_
        refine ex_iconst (v := 0) F dX7_next_41 (by decide) ?_
        refine ex_istore F dX7_next_42 (by decide) ?_
        have key : ∀ (m d : Nat) (v : Int32) (c : Nat → Int32), d + m = 4 → v = nI d → zC c → EX x g (xmL YX7_next) (putC M 16 c) 44 [(0, .ref (ad g 0)), (1, .int p), (2, .int wh), (3, .int (sNextN (M 2) p (cX M 14) d).1), (4, .int (sNextN (M 2) p (cX M 14) d).2), (5, .int v)] [] := by
          intro m
          induction m with
          | zero =>
            intro d v c hi hv hz
            obtain rfl : d = 4 := by omega
            subst hv
            refine ex_iload F dX7_next_44 rfl ?_
            refine ex_iconst (v := 3) F dX7_next_46 (by decide) ?_
            refine ex_icmp_gt (t := 98) F dX7_next_47 (by decide) (fun _ => ?_) (fun c => absurd (by decide) c)
            refine ex_iload_n F dX7_next_98 rfl rfl ?_
            refine ex_if_ne (t := 107) F dX7_next_99 (by decide) (fun c99 => ?_) (fun c99 => ?_)
            · refine ex_iload_n F dX7_next_107 rfl rfl ?_
              exact ex_iret F R dX7_next_108 rfl (⟨by rw [if_neg (by simp [b2i_0.mp c7, b2i_0.mp c16]), if_neg (by rw [b2i_0.mp c28]; decide), if_neg c99], jX_put hz⟩)
            · refine ex_iload F dX7_next_102 rfl ?_
              refine ex_goto (t := 108) F dX7_next_104 (by decide) ?_
              exact ex_iret F R dX7_next_108 rfl (⟨by rw [if_neg (by simp [b2i_0.mp c7, b2i_0.mp c16]), if_neg (by rw [b2i_0.mp c28]; decide), if_pos c99], jX_put hz⟩)
          | succ m ih =>
            intro d v c hi hv hz
            subst hv
            refine ex_iload F dX7_next_44 rfl ?_
            refine ex_iconst (v := 3) F dX7_next_46 (by decide) ?_
            refine ex_icmp_gt (t := 98) F dX7_next_47 (by decide) (fun c => absurd c (nI_nlt (b := d) (a := 3) (by omega) (by decide))) (fun _ => ?_)
            refine ex_aload_n F dX7_next_50 rfl rfl ?_
            refine ex_iload F dX7_next_51 rfl ?_
            refine ex_callVv F (c_X7_tryDeed (M := putC M 16 _) (d := d) rfl (by omega) hC.2.2.2.2 (by rw [cX_putC]; exact hz)) dX7_next_53 cs_X7_next_194 ob_7 rfl rfl rfl rfl (Nat.le_of_ble_eq_true rfl) (fun M53 h53 => ?_)
            rw [putC_putC] at h53
            have h53 : M53 = putC M 16 (sDeed d (cX M 14)) := h53
            rw [h53]
            clear h53
            refine ex_aload_n F dX7_next_56 rfl rfl ?_
            refine ex_iload_n F dX7_next_57 rfl rfl ?_
            refine ex_sipush (v := 400) F dX7_next_58 (by decide) ?_
            refine ex_callVi F (c_X7_turnTrialTillCome (M := putC M 16 _) (mm := 400) (T := T) hR (by rw [cX_putC]; exact okC_deed hC) hT (by decide) hp lp rfl (by rw [cX_putC, come_deed]; exact b2i_0.mp c28)) dX7_next_61 cs_X7_next_166 ob_7 rfl rfl rfl rfl (Nat.le_of_ble_eq_true rfl) (fun v61 M61 h61 => ?_)
            obtain ⟨e61, n61, -, q61, -⟩ := h61
            rw [cX_putC] at e61
            rw [cX_putC, putC_putC] at q61
            have e61 : v61 = sTillN (M 2) p (sDeed d (cX M 14)) 400 1 := e61
            have q61 : M61 = putC M 16 (itT (M 2) p n61 (sDeed d (cX M 14))) := q61
            have hz2 : zC (itT (M 2) p n61 (sDeed d (cX M 14))) := zC_it _ (okC_deed hC).2.2.2.2
            rw [q61]
            clear q61
            refine ex_istore F dX7_next_64 (by decide) ?_
            refine ex_iload F dX7_next_66 rfl ?_
            refine ex_bipush (v := -4) F dX7_next_68 (by decide) ?_
            refine ex_icmp_eq (t := 92) F dX7_next_70 (by decide) (fun c70 => ?_) (fun c70 => ?_)
            · refine ex_iinc (w := _ + 1) F dX7_next_92 rfl rfl (by decide) ?_
              refine ex_goto (t := 44) F dX7_next_95 (by decide) ?_
              have en : sNextN (M 2) p (cX M 14) (d + 1) = sNextN (M 2) p (cX M 14) d := by rw [sNextN, ← e61, if_pos c70]
              refine ex_weak2 (ih (d + 1) _ _ (by omega) (nI_1 d) hz2) ⟨rfl, rfl, rfl, ?_, ?_, rfl, trivial⟩
              · rw [en]; rfl
              · rw [en]; rfl
            · refine ex_iload_n F dX7_next_73 rfl rfl ?_
              refine ex_bipush (v := -4) F dX7_next_74 (by decide) ?_
              refine ex_icmp_eq (t := 85) F dX7_next_76 (by decide) (fun c76 => ?_) (fun c76 => ?_)
              · refine ex_iload F dX7_next_85 rfl ?_
                refine ex_istore_n F dX7_next_87 rfl (by decide) ?_
                refine ex_iload F dX7_next_88 rfl ?_
                refine ex_istore F dX7_next_90 (by decide) ?_
                refine ex_iinc (w := _ + 1) F dX7_next_92 rfl rfl (by decide) ?_
                refine ex_goto (t := 44) F dX7_next_95 (by decide) ?_
                have en : sNextN (M 2) p (cX M 14) (d + 1) = (v61, nI d) := by rw [sNextN, ← e61, if_neg c70, if_pos (Or.inl c76)]
                refine ex_weak2 (ih (d + 1) _ _ (by omega) (nI_1 d) hz2) ⟨rfl, rfl, rfl, ?_, ?_, rfl, trivial⟩
                · rw [en]; rfl
                · rw [en]; rfl
              · refine ex_iload F dX7_next_79 rfl ?_
                refine ex_iload_n F dX7_next_81 rfl rfl ?_
                refine ex_icmp_ge (t := 92) F dX7_next_82 (by decide) (fun c82 => ?_) (fun c82 => ?_)
                · refine ex_iinc (w := _ + 1) F dX7_next_92 rfl rfl (by decide) ?_
                  refine ex_goto (t := 44) F dX7_next_95 (by decide) ?_
                  have en : sNextN (M 2) p (cX M 14) (d + 1) = sNextN (M 2) p (cX M 14) d := by rw [sNextN, ← e61, if_neg c70, if_neg (fun q => q.elim c76 (Int32.not_lt.mpr c82))]
                  refine ex_weak2 (ih (d + 1) _ _ (by omega) (nI_1 d) hz2) ⟨rfl, rfl, rfl, ?_, ?_, rfl, trivial⟩
                  · rw [en]; rfl
                  · rw [en]; rfl
                · refine ex_iload F dX7_next_85 rfl ?_
                  refine ex_istore_n F dX7_next_87 rfl (by decide) ?_
                  refine ex_iload F dX7_next_88 rfl ?_
                  refine ex_istore F dX7_next_90 (by decide) ?_
                  refine ex_iinc (w := _ + 1) F dX7_next_92 rfl rfl (by decide) ?_
                  refine ex_goto (t := 44) F dX7_next_95 (by decide) ?_
                  have en : sNextN (M 2) p (cX M 14) (d + 1) = (v61, nI d) := by rw [sNextN, ← e61, if_neg c70, if_pos (Or.inr (Int32.not_le.mp c82))]
                  refine ex_weak2 (ih (d + 1) _ _ (by omega) (nI_1 d) hz2) ⟨rfl, rfl, rfl, ?_, ?_, rfl, trivial⟩
                  · rw [en]; rfl
                  · rw [en]; rfl
        exact ex_M (putC_cX M 16).symm (ex_weak2 (key 4 0 _ _ (by omega) rfl h16) ⟨rfl, rfl, rfl, rfl, rfl, rfl, trivial⟩)
      · refine ex_bipush (v := -2) F dX7_next_31 (by decide) ?_
        exact ex_iret F R dX7_next_33 rfl (⟨by rw [if_neg (by simp [b2i_0.mp c7, b2i_0.mp c16]), if_pos (b2i_1.mp c28)], jX_rf h16⟩)
    · refine ex_iconst (v := -1) F dX7_next_19 (by decide) ?_
      exact ex_iret F R dX7_next_20 rfl (⟨by simp [b2i_0.mp c7, b2i_1.mp c16], jX_rf h16⟩)
set_option maxRecDepth 100000 in
theorem c_X0_offer {l : Launch} {g : XG} {M : Mem} {w0 p t l0 : Int32} : Call l g YX0_offer [.ref (ad g 18), .int w0, .int p, .int t, .int l0] M (PV (fun M' => M' = putB M (sOffer (M 18) w0 p t l0))) := by
  refine call_of (by decide +kernel) (Nat.le_of_ble_eq_true rfl) (fun x hxl F R => ?_)
  subst hxl
  refine ex_aload_n F dX0_offer_0 rfl rfl ?_
  refine gf_0_0 F dX0_offer_1 fl_X0_7 ?_
  refine ex_if_eq (t := 34) F dX0_offer_4 (by decide) (fun c4 => ?_) (fun c4 => ?_)
  · refine ex_aload_n F dX0_offer_34 rfl rfl ?_
    refine ex_iconst (v := 1) F dX0_offer_35 (by decide) ?_
    refine pf_0_0 F dX0_offer_36 fl_X0_7 (by first | exact Or.inl rfl | exact Or.inr rfl | assumption) ?_
    refine ex_aload_n F dX0_offer_39 rfl rfl ?_
    refine ex_iload_n F dX0_offer_40 rfl rfl ?_
    refine pf_0_1 F dX0_offer_41 fl_X0_20 ?_
    refine ex_aload_n F dX0_offer_44 rfl rfl ?_
    refine ex_iload_n F dX0_offer_45 rfl rfl ?_
    refine pf_0_2 F dX0_offer_46 fl_X0_23 ?_
    refine ex_aload_n F dX0_offer_49 rfl rfl ?_
    refine ex_iload_n F dX0_offer_50 rfl rfl ?_
    refine pf_0_3 F dX0_offer_51 fl_X0_17 ?_
    refine ex_aload_n F dX0_offer_54 rfl rfl ?_
    refine ex_iload F dX0_offer_55 rfl ?_
    refine pf_0_4 F dX0_offer_57 fl_X0_13 ?_
    exact ex_vret F R dX0_offer_60 rfl (by rw [sOffer, if_neg (fun q => q.1 c4), putB_mu, putB_mu, putB_mu, putB_mu, putB_mu]; simp [putB_B, putB_rd])
  · refine ex_iload F dX0_offer_7 rfl ?_
    refine ex_aload_n F dX0_offer_9 rfl rfl ?_
    refine gf_0_4 F dX0_offer_10 fl_X0_13 ?_
    refine ex_icmp_gt (t := 33) F dX0_offer_13 (by decide) (fun c13 => ?_) (fun c13 => ?_)
    · exact ex_vret F R dX0_offer_33 rfl (by rw [sOffer, if_pos ⟨c4, Or.inl c13⟩, putB_id])
    · refine ex_iload F dX0_offer_16 rfl ?_
      refine ex_aload_n F dX0_offer_18 rfl rfl ?_
      refine gf_0_4 F dX0_offer_19 fl_X0_13 ?_
      refine ex_icmp_ne (t := 34) F dX0_offer_22 (by decide) (fun c22 => ?_) (fun c22 => ?_)
      · refine ex_aload_n F dX0_offer_34 rfl rfl ?_
        refine ex_iconst (v := 1) F dX0_offer_35 (by decide) ?_
        refine pf_0_0 F dX0_offer_36 fl_X0_7 (by first | exact Or.inl rfl | exact Or.inr rfl | assumption) ?_
        refine ex_aload_n F dX0_offer_39 rfl rfl ?_
        refine ex_iload_n F dX0_offer_40 rfl rfl ?_
        refine pf_0_1 F dX0_offer_41 fl_X0_20 ?_
        refine ex_aload_n F dX0_offer_44 rfl rfl ?_
        refine ex_iload_n F dX0_offer_45 rfl rfl ?_
        refine pf_0_2 F dX0_offer_46 fl_X0_23 ?_
        refine ex_aload_n F dX0_offer_49 rfl rfl ?_
        refine ex_iload_n F dX0_offer_50 rfl rfl ?_
        refine pf_0_3 F dX0_offer_51 fl_X0_17 ?_
        refine ex_aload_n F dX0_offer_54 rfl rfl ?_
        refine ex_iload F dX0_offer_55 rfl ?_
        refine pf_0_4 F dX0_offer_57 fl_X0_13 ?_
        exact ex_vret F R dX0_offer_60 rfl (by rw [sOffer, if_neg (fun q => q.2.elim c13 (fun z => c22 z.1)), putB_mu, putB_mu, putB_mu, putB_mu, putB_mu]; simp [putB_B, putB_rd])
      · refine ex_iload_n F dX0_offer_25 rfl rfl ?_
        refine ex_aload_n F dX0_offer_26 rfl rfl ?_
        refine gf_0_3 F dX0_offer_27 fl_X0_17 ?_
        refine ex_icmp_lt (t := 34) F dX0_offer_30 (by decide) (fun c30 => ?_) (fun c30 => ?_)
        · refine ex_aload_n F dX0_offer_34 rfl rfl ?_
          refine ex_iconst (v := 1) F dX0_offer_35 (by decide) ?_
          refine pf_0_0 F dX0_offer_36 fl_X0_7 (by first | exact Or.inl rfl | exact Or.inr rfl | assumption) ?_
          refine ex_aload_n F dX0_offer_39 rfl rfl ?_
          refine ex_iload_n F dX0_offer_40 rfl rfl ?_
          refine pf_0_1 F dX0_offer_41 fl_X0_20 ?_
          refine ex_aload_n F dX0_offer_44 rfl rfl ?_
          refine ex_iload_n F dX0_offer_45 rfl rfl ?_
          refine pf_0_2 F dX0_offer_46 fl_X0_23 ?_
          refine ex_aload_n F dX0_offer_49 rfl rfl ?_
          refine ex_iload_n F dX0_offer_50 rfl rfl ?_
          refine pf_0_3 F dX0_offer_51 fl_X0_17 ?_
          refine ex_aload_n F dX0_offer_54 rfl rfl ?_
          refine ex_iload F dX0_offer_55 rfl ?_
          refine pf_0_4 F dX0_offer_57 fl_X0_13 ?_
          exact ex_vret F R dX0_offer_60 rfl (by rw [sOffer, if_neg (fun q => q.2.elim c13 (fun z => z.2 c30)), putB_mu, putB_mu, putB_mu, putB_mu, putB_mu]; simp [putB_B, putB_rd])
        · exact ex_vret F R dX0_offer_33 rfl (by rw [sOffer, if_pos ⟨c4, Or.inr ⟨c22, c30⟩⟩, putB_id])
set_option maxRecDepth 100000 in
theorem c_X0_tell {l : Launch} {g : XG} {M : Mem} {w0 : Int32} : Call l g YX0_tell [.ref (ad g 18), .int w0] M (PI (fun v M' => v = sBestTell (M 18) w0 ∧ M' = M)) := by
  refine call_of (by decide +kernel) (Nat.le_of_ble_eq_true rfl) (fun x hxl F R => ?_)
  subst hxl
  refine ex_iload_n F dX0_tell_0 rfl rfl ?_
  by_cases w1_0 : w0 = 0
  · rw [w1_0]
    refine ex_tswIn (t := 28) F dX0_tell_1 (by decide) (by decide) rfl (by decide) ?_
    refine ex_aload_n F dX0_tell_28 rfl rfl ?_
    refine gf_0_1 F dX0_tell_29 fl_X0_20 ?_
    exact ex_iret F R dX0_tell_32 rfl (⟨by rw [w1_0]; rfl, rfl⟩)
  by_cases w1_1 : w0 = 1
  · rw [w1_1]
    refine ex_tswIn (t := 33) F dX0_tell_1 (by decide) (by decide) rfl (by decide) ?_
    refine ex_aload_n F dX0_tell_33 rfl rfl ?_
    refine gf_0_2 F dX0_tell_34 fl_X0_23 ?_
    exact ex_iret F R dX0_tell_37 rfl (⟨by rw [w1_1]; rfl, rfl⟩)
  by_cases w1_2 : w0 = 2
  · rw [w1_2]
    refine ex_tswIn (t := 38) F dX0_tell_1 (by decide) (by decide) rfl (by decide) ?_
    refine ex_aload_n F dX0_tell_38 rfl rfl ?_
    refine gf_0_3 F dX0_tell_39 fl_X0_17 ?_
    exact ex_iret F R dX0_tell_42 rfl (⟨by rw [w1_2]; rfl, rfl⟩)
  refine ex_tswOut (t := 43) F dX0_tell_1 (tsw_out 2 (by decide) (fun k hk => match k, hk with | 0, _ => w1_0 | 1, _ => w1_1 | 2, _ => w1_2 | n + 3, h => absurd h (by omega))) (by decide) ?_
  refine ex_aload_n F dX0_tell_43 rfl rfl ?_
  refine gf_0_4 F dX0_tell_44 fl_X0_13 ?_
  exact ex_iret F R dX0_tell_47 rfl (⟨by simp [sBestTell, w1_0, w1_1, w1_2], rfl⟩)
end
section
def bcX (x : Int32) : Int32 :=
  let sh := fun (a b : Int32) => (a.toUInt32 >>> (b.toUInt32 &&& Int32.toUInt32 31)).toInt32
  let x1 := x - (sh x 1 &&& 1431655765)
  let x2 := (x1 &&& 858993459) + (sh x1 2 &&& 858993459)
  let x3 := (x2 + sh x2 4) &&& 252645135
  let x4 := x3 + sh x3 8
  let x5 := x4 + sh x4 16
  x5 &&& 63
def tB (M : Mem) (c f : Nat → Int32) : Mem := putB (putC M 16 c) f
theorem putC_B16 (M : Mem) (f c : Nat → Int32) : putC (putB M f) 16 c = putB (putC M 16 c) f := by
  funext q
  by_cases h : q = 18
  · subst h; simp [putB, putC]
  · by_cases h1 : q = 16
    · subst h1; simp [putB, putC]
    · simp [putB, putC, h]
theorem cX_tB (M : Mem) (c f : Nat → Int32) : cX (tB M c f) 16 = c := by
  have : cX (tB M c f) 16 = cX (putC M 16 c) 16 := by funext j; simp [cX, tB, putB]
  rw [this, cX_putC]
theorem putC_tB (M : Mem) (c f d : Nat → Int32) : putC (tB M c f) 16 d = tB M d f := by rw [tB, putC_B16, putC_putC, tB]
theorem putB_tB (M : Mem) (c f h : Nat → Int32) : putB (tB M c f) h = tB M c h := by rw [tB, putB_B, tB]
theorem tB_18 (M : Mem) (c f : Nat → Int32) : tB M c f 18 = f := putB_rd _ _
theorem tB_id (M : Mem) : tB M (cX M 16) (M 18) = M := by rw [tB, putC_cX, putB_id]
theorem tB_jX {M : Mem} {c f : Nat → Int32} (h : zC c) : jX M (tB M c f) := ⟨fun q h1 h2 h3 _ => by simp [tB, putB, h3, rd_o h1 h2], by rw [cX_tB]; exact h⟩
def sBestStep (M : Mem) (b : Int32) (w p : Int32) (f : Nat → Int32) : Nat → Int32 :=
  if sTillN (M 2) p (sRowB M b w) 400 1 = -4 then f else
    if sGood (M 2) (sHard (M 2) (itT (M 2) p (sTillN (M 2) p (sRowB M b w) 400 1).toNatClampNeg (sRowB M b w))) = true then
      sOffer f w p (sTillN (M 2) p (sRowB M b w) 400 1) (sLeft (M 2) (itT (M 2) p (sTillN (M 2) p (sRowB M b w) 400 1).toNatClampNeg (sRowB M b w))) else f
def sBestN (M : Mem) (b : Int32) : Nat → Nat → Int32
  | 0 => upd (M 18) 0 0
  | q + 1 => sBestStep M b (nI (20 * (q / 9))) (nI (q % 9 + 1)) (sBestN M b q)
theorem sBest_S (M : Mem) (b : Int32) {a q : Nat} (hq : q < 9) : sBestN M b (9 * a + q + 1) = sBestStep M b (nI (20 * a)) (nI (q + 1)) (sBestN M b (9 * a + q)) := by
  show sBestStep M b (nI (20 * ((9 * a + q) / 9))) (nI ((9 * a + q) % 9 + 1)) _ = _
  rw [show (9 * a + q) / 9 = a by omega, show (9 * a + q) % 9 = q by omega]
theorem row_ok {M : Mem} {b w : Int32} (hO : tO M) (hb : sHasCows (M 1 4) b = true) {x : Nat} (lx : x ≤ 400) (hw : w = nI x) : okC 0 (sRowB M b w) := by
  obtain ⟨n, e, h⟩ := hO
  rw [e] at hb
  refine okC_fill h hb ?_
  rw [hw]
  simp only [outB, Bool.or_eq_false_iff, decide_eq_false_iff_not]
  exact ⟨nI_pos (by omega), nI_nlt (a := 400) (b := x) lx (by decide)⟩

set_option maxRecDepth 100000 in
theorem c_J6_bitCount_0f7a4 {l : Launch} {g : XG} {M : Mem} {z : Int32} : Call l g YJ6_bitCount_0f7a4 [.int z] M (PI (fun v M' => v = bcX z ∧ M' = M)) := by
  refine call_ofF (by decide +kernel) (Nat.le_of_ble_eq_true rfl) (fun x hxl F R => ?_)
  subst hxl
  refine ex_iload_n F dJ6_bitCount_0f7a4_0 rfl rfl ?_
  refine ex_iload_n F dJ6_bitCount_0f7a4_1 rfl rfl ?_
  refine ex_iconst (v := 1) F dJ6_bitCount_0f7a4_2 (by decide) ?_
  refine ex_iushr F dJ6_bitCount_0f7a4_3 ?_
  refine ex_ldcw F dJ6_bitCount_0f7a4_4 kc_J6_265 ?_
  refine ex_iand F dJ6_bitCount_0f7a4_7 ?_
  refine ex_isub F dJ6_bitCount_0f7a4_8 ?_
  refine ex_istore_n F dJ6_bitCount_0f7a4_9 rfl (by decide) ?_
  refine ex_iload_n F dJ6_bitCount_0f7a4_10 rfl rfl ?_
  refine ex_ldcw F dJ6_bitCount_0f7a4_11 kc_J6_266 ?_
  refine ex_iand F dJ6_bitCount_0f7a4_14 ?_
  refine ex_iload_n F dJ6_bitCount_0f7a4_15 rfl rfl ?_
  refine ex_iconst (v := 2) F dJ6_bitCount_0f7a4_16 (by decide) ?_
  refine ex_iushr F dJ6_bitCount_0f7a4_17 ?_
  refine ex_ldcw F dJ6_bitCount_0f7a4_18 kc_J6_266 ?_
  refine ex_iand F dJ6_bitCount_0f7a4_21 ?_
  refine ex_iadd F dJ6_bitCount_0f7a4_22 ?_
  refine ex_istore_n F dJ6_bitCount_0f7a4_23 rfl (by decide) ?_
  refine ex_iload_n F dJ6_bitCount_0f7a4_24 rfl rfl ?_
  refine ex_iload_n F dJ6_bitCount_0f7a4_25 rfl rfl ?_
  refine ex_iconst (v := 4) F dJ6_bitCount_0f7a4_26 (by decide) ?_
  refine ex_iushr F dJ6_bitCount_0f7a4_27 ?_
  refine ex_iadd F dJ6_bitCount_0f7a4_28 ?_
  refine ex_ldcw F dJ6_bitCount_0f7a4_29 kc_J6_267 ?_
  refine ex_iand F dJ6_bitCount_0f7a4_32 ?_
  refine ex_istore_n F dJ6_bitCount_0f7a4_33 rfl (by decide) ?_
  refine ex_iload_n F dJ6_bitCount_0f7a4_34 rfl rfl ?_
  refine ex_iload_n F dJ6_bitCount_0f7a4_35 rfl rfl ?_
  refine ex_bipush (v := 8) F dJ6_bitCount_0f7a4_36 (by decide) ?_
  refine ex_iushr F dJ6_bitCount_0f7a4_38 ?_
  refine ex_iadd F dJ6_bitCount_0f7a4_39 ?_
  refine ex_istore_n F dJ6_bitCount_0f7a4_40 rfl (by decide) ?_
  refine ex_iload_n F dJ6_bitCount_0f7a4_41 rfl rfl ?_
  refine ex_iload_n F dJ6_bitCount_0f7a4_42 rfl rfl ?_
  refine ex_bipush (v := 16) F dJ6_bitCount_0f7a4_43 (by decide) ?_
  refine ex_iushr F dJ6_bitCount_0f7a4_45 ?_
  refine ex_iadd F dJ6_bitCount_0f7a4_46 ?_
  refine ex_istore_n F dJ6_bitCount_0f7a4_47 rfl (by decide) ?_
  refine ex_iload_n F dJ6_bitCount_0f7a4_48 rfl rfl ?_
  refine ex_bipush (v := 63) F dJ6_bitCount_0f7a4_49 (by decide) ?_
  refine ex_iand F dJ6_bitCount_0f7a4_51 ?_
  exact ex_iret F R dJ6_bitCount_0f7a4_52 rfl (⟨rfl, rfl⟩)
theorem cs_X7_findBest_108 : CSV (xmN YX7_findBest).cls (xmF YX7_findBest) (xmW YX7_findBest) 108 3 YX1_fillWith := ⟨⟨ml_X7_108, ini_X1, cd_X1_fillWith, by decide +kernel, by decide⟩, im_X1_fillWith, se_X1_fillWith⟩
theorem cs_X7_findBest_166 : CSV (xmN YX7_findBest).cls (xmF YX7_findBest) (xmW YX7_findBest) 166 2 YX7_turnTrialTillCome := ⟨⟨ml_X7_166, ini_X7, cd_X7_turnTrialTillCome, by decide +kernel, by decide⟩, im_X7_turnTrialTillCome, se_X7_turnTrialTillCome⟩
theorem cs_X7_findBest_274 : CSV (xmN YX7_findBest).cls (xmF YX7_findBest) (xmW YX7_findBest) 274 1 YX1_hardness := ⟨⟨ml_X7_274, ini_X1, cd_X1_hardness, by decide +kernel, by decide⟩, im_X1_hardness, se_X1_hardness⟩
theorem cs_X7_findBest_184 : CSV (xmN YX7_findBest).cls (xmF YX7_findBest) (xmW YX7_findBest) 184 1 YX6_isGood := ⟨⟨ml_X7_184, ini_X6, cd_X6_isGood, by decide +kernel, by decide⟩, im_X6_isGood, se_X6_isGood⟩
theorem cs_X7_findBest_278 : CSV (xmN YX7_findBest).cls (xmF YX7_findBest) (xmW YX7_findBest) 278 1 YX1_left := ⟨⟨ml_X7_278, ini_X1, cd_X1_left, by decide +kernel, by decide⟩, im_X1_left, se_X1_left⟩
theorem cs_X7_findBest_281 : CSV (xmN YX7_findBest).cls (xmF YX7_findBest) (xmW YX7_findBest) 281 4 YX0_offer := ⟨⟨ml_X7_281, ini_X0, cd_X0_offer, by decide +kernel, by decide⟩, im_X0_offer, se_X0_offer⟩
set_option maxRecDepth 100000 in
theorem c_X7_findBest {l : Launch} {g : XG} {M : Mem} {b : Int32} (hR : okR (M 2)) (hO : tO M) (h16 : zC (cX M 16)) (hb : sHasCows (M 1 4) b = true) : Call l g YX7_findBest [.ref (ad g 0), .int b] M (PV (fun M' => ∃ c, zC c ∧ M' = tB M c (sBestN M b 189))) := by
  refine call_of (by decide +kernel) (Nat.le_of_ble_eq_true rfl) (fun x hxl F R => ?_)
  subst hxl
  refine ex_aload_n F dX7_findBest_0 rfl rfl ?_
  refine gf_7_4 F dX7_findBest_1 fl_X7_36 ?_
  refine ex_iconst (v := 0) F dX7_findBest_4 (by decide) ?_
  refine pf_0_0 F dX7_findBest_5 fl_X7_173 (by first | exact Or.inl rfl | exact Or.inr rfl | assumption) ?_
  refine ex_iconst (v := 0) F dX7_findBest_8 (by decide) ?_
  refine ex_istore_n F dX7_findBest_9 rfl (by decide) ?_
  have key : ∀ (m a : Nat) (v : Int32) (c f : Nat → Int32), a + m = 21 → v = nI (20 * a) → zC c → f = sBestN M b (9 * a) → EX x g (xmL YX7_findBest) (tB M c f) 10 [(0, .ref (ad g 0)), (1, .int b), (2, .int v)] [] := by
    intro m
    induction m with
    | zero =>
      intro a v c f ha hv hz hf
      obtain rfl : a = 21 := by omega
      subst hv
      refine ex_iload_n F dX7_findBest_10 rfl rfl ?_
      refine ex_sipush (v := 400) F dX7_findBest_11 (by decide) ?_
      refine ex_icmp_gt (t := 110) F dX7_findBest_14 (by decide) (fun _ => ?_) (fun c => absurd (by decide) c)
      exact ex_vret F R dX7_findBest_110 rfl (⟨c, hz, by rw [hf]⟩)
    | succ m ih =>
      intro a v c f ha hv hz hf
      subst hv
      have inner : ∀ (k q : Nat) (u : Int32) (c f : Nat → Int32), q + k = 9 → u = nI (q + 1) → zC c → f = sBestN M b (9 * a + q) → EX x g (xmL YX7_findBest) (tB M c f) 19 [(0, .ref (ad g 0)), (1, .int b), (2, .int (nI (20 * a))), (3, .int u)] [] := by
        intro k
        induction k with
        | zero =>
          intro q u c f hq hu hz hf
          obtain rfl : q = 9 := by omega
          subst hu
          refine ex_iload_n F dX7_findBest_19 rfl rfl ?_
          refine ex_bipush (v := 9) F dX7_findBest_20 (by decide) ?_
          refine ex_icmp_gt (t := 104) F dX7_findBest_22 (by decide) (fun _ => ?_) (fun c => absurd (by decide) c)
          refine ex_iinc (w := _ + 20) F dX7_findBest_104 rfl rfl (by decide) ?_
          refine ex_goto (t := 10) F dX7_findBest_107 (by decide) ?_
          refine ex_weak2 (ih (a + 1) _ c f (by omega) ?_ hz ?_) ⟨rfl, rfl, rfl, trivial⟩
          · rw [show (20 : Int32) = nI 20 from rfl, nI_add]; rfl
          · rw [hf]; rfl
        | succ k ih2 =>
          intro q u c f hq hu hz hf
          subst hu
          have hCf : okC 0 (sRowB M b (nI (20 * a))) := row_ok hO hb (x := 20 * a) (by omega) rfl
          refine ex_iload_n F dX7_findBest_19 rfl rfl ?_
          refine ex_bipush (v := 9) F dX7_findBest_20 (by decide) ?_
          refine ex_icmp_gt (t := 104) F dX7_findBest_22 (by decide) (fun c => absurd c (nI_nlt (b := q + 1) (a := 9) (by omega) (by decide))) (fun _ => ?_)
          refine ex_aload_n F dX7_findBest_25 rfl rfl ?_
          refine gf_7_3 F dX7_findBest_26 fl_X7_30 ?_
          refine ex_aload_n F dX7_findBest_29 rfl rfl ?_
          refine gf_7_0 F dX7_findBest_30 fl_X7_10 ?_
          refine ex_iload_n F dX7_findBest_33 rfl rfl ?_
          refine ex_iload_n F dX7_findBest_34 rfl rfl ?_
          refine ex_callVv F (c_X1_fillWith (M := tB M c f) (k := 16) (by decide)) dX7_findBest_35 cs_X7_findBest_108 (ob_1 (by decide)) rfl rfl rfl rfl (Nat.le_of_ble_eq_true rfl) (fun M35 h35 => ?_)
          rw [cX_tB, fill_z hz, putC_tB] at h35
          have h35 : M35 = tB M (sRowB M b (nI (20 * a))) f := h35
          rw [h35]
          clear h35
          refine ex_aload_n F dX7_findBest_38 rfl rfl ?_
          refine ex_iload_n F dX7_findBest_39 rfl rfl ?_
          refine ex_sipush (v := 400) F dX7_findBest_40 (by decide) ?_
          refine ex_callVi F (c_X7_turnTrialTillCome (M := tB M _ f) (mm := 400) (T := 0) (pp := q + 1) hR (by rw [cX_tB]; exact hCf) (by decide) (by decide) rfl (by omega) rfl (by rw [cX_tB]; rfl)) dX7_findBest_43 cs_X7_findBest_166 ob_7 rfl rfl rfl rfl (Nat.le_of_ble_eq_true rfl) (fun v43 M43 h43 => ?_)
          obtain ⟨e43, n43, l43, q43, w43⟩ := h43
          rw [cX_tB] at e43
          rw [cX_tB, putC_tB] at q43
          have e43 : v43 = sTillN (M 2) (nI (q + 1)) (sRowB M b (nI (20 * a))) 400 1 := e43
          have q43 : M43 = tB M (itT (M 2) (nI (q + 1)) n43 (sRowB M b (nI (20 * a)))) f := q43
          have hz2 : zC (itT (M 2) (nI (q + 1)) n43 (sRowB M b (nI (20 * a)))) := zC_it _ hCf.2.2.2.2
          rw [q43]
          clear q43
          refine ex_istore F dX7_findBest_46 (by decide) ?_
          refine ex_iload F dX7_findBest_48 rfl ?_
          refine ex_bipush (v := -4) F dX7_findBest_50 (by decide) ?_
          refine ex_icmp_eq (t := 98) F dX7_findBest_52 (by decide) (fun c52 => ?_) (fun c52 => ?_)
          · refine ex_iinc (w := _ + 1) F dX7_findBest_98 rfl rfl (by decide) ?_
            refine ex_goto (t := 19) F dX7_findBest_101 (by decide) ?_
            refine ex_weak2 (ih2 (q + 1) _ _ _ (by omega) (nI_1 (q + 1)) hz2 ?_) ⟨rfl, rfl, rfl, rfl, trivial⟩
            rw [← Nat.add_assoc, sBest_S M b (by omega), ← hf, sBestStep, ← e43, if_pos c52]
          · have en43 : v43.toNatClampNeg = n43 := by rw [(w43 c52).1]; exact nI_clamp (by omega)
            refine ex_aload_n F dX7_findBest_55 rfl rfl ?_
            refine gf_7_0 F dX7_findBest_56 fl_X7_10 ?_
            refine ex_aload_n F dX7_findBest_59 rfl rfl ?_
            refine gf_7_3 F dX7_findBest_60 fl_X7_30 ?_
            refine ex_aload_n F dX7_findBest_63 rfl rfl ?_
            refine gf_7_0 F dX7_findBest_64 fl_X7_10 ?_
            refine ex_callVi F (c_X1_hardness (M := tB M _ f) (k := 16) (by decide)) dX7_findBest_67 cs_X7_findBest_274 (ob_1 (by decide)) rfl rfl rfl rfl (Nat.le_of_ble_eq_true rfl) (fun v67 M67 h67 => ?_)
            obtain ⟨e67, q67⟩ := h67
            rw [cX_tB] at e67
            have e67 : v67 = sHard (M 2) (itT (M 2) (nI (q + 1)) n43 (sRowB M b (nI (20 * a)))) := e67
            rw [q67]
            clear q67
            refine ex_callVi F (c_X6_isGood) dX7_findBest_70 cs_X7_findBest_184 (ob_6 (by decide)) rfl rfl rfl rfl (Nat.le_of_ble_eq_true rfl) (fun v70 M70 h70 => ?_)
            obtain ⟨rfl, q70⟩ := h70
            rw [q70]
            clear q70
            refine ex_if_eq (t := 98) F dX7_findBest_73 (by decide) (fun c73 => ?_) (fun c73 => ?_)
            · refine ex_iinc (w := _ + 1) F dX7_findBest_98 rfl rfl (by decide) ?_
              refine ex_goto (t := 19) F dX7_findBest_101 (by decide) ?_
              have g73 : b2i (sGood (M 2) v67) = 0 := c73
              refine ex_weak2 (ih2 (q + 1) _ _ _ (by omega) (nI_1 (q + 1)) hz2 ?_) ⟨rfl, rfl, rfl, rfl, trivial⟩
              rw [← Nat.add_assoc, sBest_S M b (by omega), ← hf, sBestStep, ← e43, if_neg c52, en43, if_neg (by rw [← e67, b2i_0.mp g73]; decide)]
            · refine ex_aload_n F dX7_findBest_76 rfl rfl ?_
              refine gf_7_4 F dX7_findBest_77 fl_X7_36 ?_
              refine ex_iload_n F dX7_findBest_80 rfl rfl ?_
              refine ex_iload_n F dX7_findBest_81 rfl rfl ?_
              refine ex_iload F dX7_findBest_82 rfl ?_
              refine ex_aload_n F dX7_findBest_84 rfl rfl ?_
              refine gf_7_3 F dX7_findBest_85 fl_X7_30 ?_
              refine ex_aload_n F dX7_findBest_88 rfl rfl ?_
              refine gf_7_0 F dX7_findBest_89 fl_X7_10 ?_
              refine ex_callVi F (c_X1_left (M := tB M _ f) (k := 16) (by decide) hR) dX7_findBest_92 cs_X7_findBest_278 (ob_1 (by decide)) rfl rfl rfl rfl (Nat.le_of_ble_eq_true rfl) (fun v92 M92 h92 => ?_)
              obtain ⟨e92, q92⟩ := h92
              rw [cX_tB] at e92
              have e92 : v92 = sLeft (M 2) (itT (M 2) (nI (q + 1)) n43 (sRowB M b (nI (20 * a)))) := e92
              rw [q92]
              clear q92
              refine ex_callVv F (c_X0_offer) dX7_findBest_95 cs_X7_findBest_281 ob_0 rfl rfl rfl rfl (Nat.le_of_ble_eq_true rfl) (fun M95 h95 => ?_)
              rw [tB_18, putB_tB] at h95
              rw [h95]
              clear h95
              refine ex_iinc (w := _ + 1) F dX7_findBest_98 rfl rfl (by decide) ?_
              refine ex_goto (t := 19) F dX7_findBest_101 (by decide) ?_
              have g73 : ¬ b2i (sGood (M 2) v67) = 0 := c73
              refine ex_weak2 (ih2 (q + 1) _ _ _ (by omega) (nI_1 (q + 1)) hz2 ?_) ⟨rfl, rfl, rfl, rfl, trivial⟩
              rw [← Nat.add_assoc, sBest_S M b (by omega), ← hf, sBestStep, ← e43, if_neg c52, en43, if_pos (by rw [← e67, b2i_1.mp g73]), ← e92]
      refine ex_iload_n F dX7_findBest_10 rfl rfl ?_
      refine ex_sipush (v := 400) F dX7_findBest_11 (by decide) ?_
      refine ex_icmp_gt (t := 110) F dX7_findBest_14 (by decide) (fun c => absurd c (nI_nlt (b := 20 * a) (a := 400) (by omega) (by decide))) (fun _ => ?_)
      refine ex_iconst (v := 1) F dX7_findBest_17 (by decide) ?_
      refine ex_istore_n F dX7_findBest_18 rfl (by decide) ?_
      exact ex_weak2 (inner 9 0 _ c f (by omega) rfl hz hf) ⟨rfl, rfl, rfl, rfl, trivial⟩
  refine ex_M (M1 := tB M (cX M 16) (upd (M 18) 0 0)) ?_ (ex_weak2 (key 21 0 _ _ _ (by omega) rfl h16 rfl) ⟨rfl, rfl, rfl, trivial⟩)
  rw [putB_mu, tB, putC_cX]
theorem cs_X7_plan_135 : CSV (xmN YX7_plan).cls (xmF YX7_plan) (xmW YX7_plan) 135 1 YX6_hasCows := ⟨⟨ml_X7_135, ini_X6, cd_X6_hasCows, by decide +kernel, by decide⟩, im_X6_hasCows, se_X6_hasCows⟩
theorem cs_X7_plan_85 : CSS (xmN YX7_plan).cls (xmF YX7_plan) (xmW YX7_plan) 85 3 YX7_outside := ⟨⟨ml_X7_85, ini_X7, cd_X7_outside, by decide +kernel, by decide⟩, st_X7_outside⟩
theorem cs_X7_plan_169 : CSV (xmN YX7_plan).cls (xmF YX7_plan) (xmW YX7_plan) 169 1 YX7_findBest := ⟨⟨ml_X7_169, ini_X7, cd_X7_findBest, by decide +kernel, by decide⟩, im_X7_findBest, se_X7_findBest⟩
theorem cs_X7_plan_174 : CSV (xmN YX7_plan).cls (xmF YX7_plan) (xmW YX7_plan) 174 1 YX0_tell := ⟨⟨ml_X7_174, ini_X0, cd_X0_tell, by decide +kernel, by decide⟩, im_X0_tell, se_X0_tell⟩
set_option maxRecDepth 100000 in
theorem c_X7_plan {l : Launch} {g : XG} {M : Mem} {b wh : Int32} (hR : okR (M 2)) (hO : tO M) (h16 : zC (cX M 16)) : Call l g YX7_plan [.ref (ad g 0), .int b, .int wh] M (PI (fun v M' => v = (if (!sHasCows (M 1 4) b || outB wh 0 3) = true then -1 else if sBestN M b 189 0 = 0 then -4 else sBestTell (sBestN M b 189) wh) ∧ jX M M')) := by
  refine call_of (by decide +kernel) (Nat.le_of_ble_eq_true rfl) (fun x hxl F R => ?_)
  subst hxl
  refine ex_aload_n F dX7_plan_0 rfl rfl ?_
  refine gf_7_0 F dX7_plan_1 fl_X7_10 ?_
  refine ex_iload_n F dX7_plan_4 rfl rfl ?_
  refine ex_callVi F (c_X6_hasCows) dX7_plan_5 cs_X7_plan_135 (ob_6 (by decide)) rfl rfl rfl rfl (Nat.le_of_ble_eq_true rfl) (fun v5 M5 h5 => ?_)
  obtain ⟨rfl, q5⟩ := h5
  rw [q5]
  clear q5
  refine ex_if_eq (t := 20) F dX7_plan_8 (by decide) (fun c8 => ?_) (fun c8 => ?_)
  · refine ex_iconst (v := -1) F dX7_plan_20 (by decide) ?_
    exact ex_iret F R dX7_plan_21 rfl (⟨by simp [b2i_0.mp c8], jX_rf h16⟩)
  · refine ex_iload_n F dX7_plan_11 rfl rfl ?_
    refine ex_iconst (v := 0) F dX7_plan_12 (by decide) ?_
    refine ex_iconst (v := 3) F dX7_plan_13 (by decide) ?_
    refine ex_callSi F (c_X7_outside) dX7_plan_14 cs_X7_plan_85 rfl rfl (Nat.le_of_ble_eq_true rfl) (fun v14 M14 h14 => ?_)
    obtain ⟨rfl, q14⟩ := h14
    rw [q14]
    clear q14
    refine ex_if_eq (t := 22) F dX7_plan_17 (by decide) (fun c17 => ?_) (fun c17 => ?_)
    · refine ex_aload_n F dX7_plan_22 rfl rfl ?_
      refine ex_iload_n F dX7_plan_23 rfl rfl ?_
      refine ex_callVv F (c_X7_findBest hR hO h16 (b2i_1.mp c8)) dX7_plan_24 cs_X7_plan_169 ob_7 rfl rfl rfl rfl (Nat.le_of_ble_eq_true rfl) (fun M24 h24 => ?_)
      obtain ⟨c, hz, q24⟩ := h24
      generalize sBestN M b 189 = f at q24 R
      rw [q24]
      clear q24
      refine ex_aload_n F dX7_plan_27 rfl rfl ?_
      refine gf_7_4 F dX7_plan_28 fl_X7_36 ?_
      refine gf_0_0 F dX7_plan_31 fl_X7_173 ?_
      refine ex_if_eq (t := 48) F dX7_plan_34 (by decide) (fun c34 => ?_) (fun c34 => ?_)
      · refine ex_bipush (v := -4) F dX7_plan_48 (by decide) ?_
        exact ex_iret F R dX7_plan_50 rfl (⟨by rw [if_neg (by simp [b2i_1.mp c8, b2i_0.mp c17])]; rw [if_pos (show f 0 = 0 from c34)], tB_jX hz⟩)
      · refine ex_aload_n F dX7_plan_37 rfl rfl ?_
        refine gf_7_4 F dX7_plan_38 fl_X7_36 ?_
        refine ex_iload_n F dX7_plan_41 rfl rfl ?_
        refine ex_callVi F (c_X0_tell) dX7_plan_42 cs_X7_plan_174 ob_0 rfl rfl rfl rfl (Nat.le_of_ble_eq_true rfl) (fun v42 M42 h42 => ?_)
        obtain ⟨rfl, q42⟩ := h42
        rw [q42]
        clear q42
        refine ex_goto (t := 50) F dX7_plan_45 (by decide) ?_
        exact ex_iret F R dX7_plan_50 rfl (⟨by rw [if_neg (by simp [b2i_1.mp c8, b2i_0.mp c17])]; rw [if_neg (show ¬ f 0 = 0 from c34)]; rfl, tB_jX hz⟩)
    · refine ex_iconst (v := -1) F dX7_plan_20 (by decide) ?_
      exact ex_iret F R dX7_plan_21 rfl (⟨by simp [b2i_1.mp c8, b2i_1.mp c17], jX_rf h16⟩)
end
section
def sWoN (M : Mem) (all : Int32) : Nat → Int32
  | 0 => -4
  | k + 1 => if (sWoN M all k = -4 ∨ bcX (nI k) < bcX (sWoN M all k)) ∧ sGood (M 2) (sHardOf (M 4) (M 5) (all &&& (nI k ^^^ -1))) = true then nI k else sWoN M all k
def sMo (t : Int32) : Nat := if 0 < t then t.toNatClampNeg else 400
def sSo1 (M : Mem) (w p : Int32) (i : Nat) : Bool := decide (sTillN (M 2) p (sRowB M (M 35 i) w) (sMo (M 36 i)) 1 = (if 0 < M 36 i then M 36 i else -4))
def sSoN (M : Mem) (w p : Int32) : Nat → Nat → Bool
  | 0, _ => true
  | m + 1, i => if sSo1 M w p i = true then sSoN M w p m (i + 1) else false
def seenO (M : Mem) (k : Nat) : Prop := k ≤ 8 ∧ M 0 10 = nI k ∧ ∀ i, i < k → sHasCows (M 1 4) (M 35 i) = true ∧ ∃ t, t ≤ 400 ∧ M 36 i = nI t
def sS (M : Mem) (k q : Nat) : Bool := sSoN M (nI (20 * (q / 9))) (nI (q % 9 + 1)) k 0
theorem sS_at (M : Mem) (k : Nat) {a q : Nat} (hq : q < 9) : sS M k (9 * a + q) = sSoN M (nI (20 * a)) (nI (q + 1)) k 0 := by
  unfold sS
  rw [show (9 * a + q) / 9 = a by omega, show (9 * a + q) % 9 = q by omega]
theorem sSoN_put (M : Mem) (c : Nat → Int32) (w p : Int32) : ∀ m i, sSoN (putC M 16 c) w p m i = sSoN M w p m i := by
  intro m
  induction m with
  | zero => intro i; rfl
  | succ m ih => intro i; rw [sSoN, sSoN, ih, show sSo1 (putC M 16 c) w p i = sSo1 M w p i from rfl]
def sWhyN (M : Mem) (k : Nat) (wh : Int32) : Nat → Nat → Int32 → Int32
  | 0, _, cnt => if wh = 0 then cnt else -4
  | m + 1, q, cnt => if sS M k q = true then (if wh = 0 then sWhyN M k wh m (q + 1) (cnt + 1) else if wh = 1 then nI (20 * (q / 9)) else nI (q % 9 + 1)) else sWhyN M k wh m (q + 1) cnt

theorem cs_X7_without_85 : CSS (xmN YX7_without).cls (xmF YX7_without) (xmW YX7_without) 85 3 YX7_outside := ⟨⟨ml_X7_85, ini_X7, cd_X7_outside, by decide +kernel, by decide⟩, st_X7_outside⟩
theorem cs_X7_without_105 : CSV (xmN YX7_without).cls (xmF YX7_without) (xmW YX7_without) 105 0 YX6_allCows := ⟨⟨ml_X7_105, ini_X6, cd_X6_allCows, by decide +kernel, by decide⟩, im_X6_allCows, se_X6_allCows⟩
theorem cs_X7_without_176 : CSS (xmN YX7_without).cls (xmF YX7_without) (xmW YX7_without) 176 1 YJ6_bitCount_0f7a4 := ⟨⟨ml_X7_176, ini_J6, cd_J6_bitCount_0f7a4, by decide +kernel, by decide⟩, st_J6_bitCount_0f7a4⟩
theorem cs_X7_without_181 : CSV (xmN YX7_without).cls (xmF YX7_without) (xmW YX7_without) 181 1 YX6_hardOf := ⟨⟨ml_X7_181, ini_X6, cd_X6_hardOf, by decide +kernel, by decide⟩, im_X6_hardOf, se_X6_hardOf⟩
theorem cs_X7_without_184 : CSV (xmN YX7_without).cls (xmF YX7_without) (xmW YX7_without) 184 1 YX6_isGood := ⟨⟨ml_X7_184, ini_X6, cd_X6_isGood, by decide +kernel, by decide⟩, im_X6_isGood, se_X6_isGood⟩
set_option maxRecDepth 100000 in
theorem c_X7_without {l : Launch} {g : XG} {M : Mem} {wh : Int32} {n : Nat} (hn : M 1 4 = nI n) (ln : n ≤ 8) : Call l g YX7_without [.ref (ad g 0), .int wh] M (PI (fun v M' => v = (if outB wh 0 1 = true then -1 else if sWoN M (nI (2 ^ n - 1)) (2 ^ n - 1) = -4 ∨ wh = 1 then sWoN M (nI (2 ^ n - 1)) (2 ^ n - 1) else bcX (sWoN M (nI (2 ^ n - 1)) (2 ^ n - 1))) ∧ M' = M)) := by
  refine call_of (by decide +kernel) (Nat.le_of_ble_eq_true rfl) (fun x hxl F R => ?_)
  subst hxl
  refine ex_iload_n F dX7_without_0 rfl rfl ?_
  refine ex_iconst (v := 0) F dX7_without_1 (by decide) ?_
  refine ex_iconst (v := 1) F dX7_without_2 (by decide) ?_
  refine ex_callSi F (c_X7_outside) dX7_without_3 cs_X7_without_85 rfl rfl (Nat.le_of_ble_eq_true rfl) (fun v3 M3 h3 => ?_)
  obtain ⟨rfl, q3⟩ := h3
  rw [q3]
  clear q3
  refine ex_if_eq (t := 11) F dX7_without_6 (by decide) (fun c6 => ?_) (fun c6 => ?_)
  · refine ex_aload_n F dX7_without_11 rfl rfl ?_
    refine gf_7_0 F dX7_without_12 fl_X7_10 ?_
    refine ex_callVi F (c_X6_allCows) dX7_without_15 cs_X7_without_105 (ob_6 (by decide)) rfl rfl rfl rfl (Nat.le_of_ble_eq_true rfl) (fun v15 M15 h15 => ?_)
    obtain ⟨e15, q15⟩ := h15
    rw [q15]
    clear q15
    rw [hn, sAll_n n ln] at e15
    subst e15
    have l8 := pow8 ln
    generalize hal : 2 ^ n - 1 = al at R ⊢
    have lal : al ≤ 256 := by omega
    refine ex_istore_n F dX7_without_18 rfl (by decide) ?_
    refine ex_bipush (v := -4) F dX7_without_19 (by decide) ?_
    refine ex_istore_n F dX7_without_21 rfl (by decide) ?_
    refine ex_iconst (v := 0) F dX7_without_22 (by decide) ?_
    refine ex_istore F dX7_without_23 (by decide) ?_
    have key : ∀ (m i : Nat) (v o : Int32), i + m = al → v = nI i → o = sWoN M (nI al) i → EX x g (xmL YX7_without) M 25 [(0, .ref (ad g 0)), (1, .int wh), (2, .int (nI al)), (3, .int o), (4, .int v)] [] := by
      intro m
      induction m with
      | zero =>
        intro i v o hi hv ho
        obtain rfl : i = al := by omega
        subst hv
        refine ex_iload F dX7_without_25 rfl ?_
        refine ex_iload_n F dX7_without_27 rfl rfl ?_
        refine ex_icmp_ge (t := 93) F dX7_without_28 (by decide) (fun _ => ?_) (fun c => absurd (Int32.le_refl _) c)
        refine ex_iload_n F dX7_without_93 rfl rfl ?_
        refine ex_bipush (v := -4) F dX7_without_94 (by decide) ?_
        refine ex_icmp_eq (t := 104) F dX7_without_96 (by decide) (fun c96 => ?_) (fun c96 => ?_)
        · refine ex_iload_n F dX7_without_104 rfl rfl ?_
          refine ex_goto (t := 112) F dX7_without_105 (by decide) ?_
          exact ex_iret F R dX7_without_112 rfl (⟨by rw [if_neg (by rw [b2i_0.mp c6]; decide), ← ho]; rw [if_pos (Or.inl c96)], rfl⟩)
        · refine ex_iload_n F dX7_without_99 rfl rfl ?_
          refine ex_iconst (v := 1) F dX7_without_100 (by decide) ?_
          refine ex_icmp_ne (t := 108) F dX7_without_101 (by decide) (fun c101 => ?_) (fun c101 => ?_)
          · refine ex_iload_n F dX7_without_108 rfl rfl ?_
            refine ex_callSi F (c_J6_bitCount_0f7a4) dX7_without_109 cs_X7_without_176 rfl rfl (Nat.le_of_ble_eq_true rfl) (fun v109 M109 h109 => ?_)
            obtain ⟨rfl, q109⟩ := h109
            rw [q109]
            clear q109
            exact ex_iret F R dX7_without_112 rfl (⟨by rw [if_neg (by rw [b2i_0.mp c6]; decide), ← ho]; rw [if_neg (fun q => q.elim c96 c101)], rfl⟩)
          · refine ex_iload_n F dX7_without_104 rfl rfl ?_
            refine ex_goto (t := 112) F dX7_without_105 (by decide) ?_
            exact ex_iret F R dX7_without_112 rfl (⟨by rw [if_neg (by rw [b2i_0.mp c6]; decide), ← ho]; rw [if_pos (Or.inr c101)], rfl⟩)
      | succ m ih =>
        intro i v o hi hv ho
        subst hv
        refine ex_iload F dX7_without_25 rfl ?_
        refine ex_iload_n F dX7_without_27 rfl rfl ?_
        refine ex_icmp_ge (t := 93) F dX7_without_28 (by decide) (fun c => absurd c (nI_ge (by omega) (by omega))) (fun _ => ?_)
        refine ex_iload_n F dX7_without_31 rfl rfl ?_
        refine ex_bipush (v := -4) F dX7_without_32 (by decide) ?_
        refine ex_icmp_eq (t := 49) F dX7_without_34 (by decide) (fun c34 => ?_) (fun c34 => ?_)
        · refine ex_iconst (v := 1) F dX7_without_49 (by decide) ?_
          refine ex_goto (t := 54) F dX7_without_50 (by decide) ?_
          refine ex_istore F dX7_without_54 (by decide) ?_
          refine ex_iload F dX7_without_56 rfl ?_
          refine ex_if_eq (t := 87) F dX7_without_58 (by decide) (fun c => absurd c (by decide)) (fun _ => ?_)
          refine ex_aload_n F dX7_without_61 rfl rfl ?_
          refine gf_7_0 F dX7_without_62 fl_X7_10 ?_
          refine ex_aload_n F dX7_without_65 rfl rfl ?_
          refine gf_7_0 F dX7_without_66 fl_X7_10 ?_
          refine ex_iload_n F dX7_without_69 rfl rfl ?_
          refine ex_iload F dX7_without_70 rfl ?_
          refine ex_iconst (v := -1) F dX7_without_72 (by decide) ?_
          refine ex_ixor F dX7_without_73 ?_
          refine ex_iand F dX7_without_74 ?_
          refine ex_callVi F (c_X6_hardOf) dX7_without_75 cs_X7_without_181 (ob_6 (by decide)) rfl rfl rfl rfl (Nat.le_of_ble_eq_true rfl) (fun v75 M75 h75 => ?_)
          obtain ⟨rfl, q75⟩ := h75
          rw [q75]
          clear q75
          refine ex_callVi F (c_X6_isGood) dX7_without_78 cs_X7_without_184 (ob_6 (by decide)) rfl rfl rfl rfl (Nat.le_of_ble_eq_true rfl) (fun v78 M78 h78 => ?_)
          obtain ⟨rfl, q78⟩ := h78
          rw [q78]
          clear q78
          refine ex_if_eq (t := 87) F dX7_without_81 (by decide) (fun c81 => ?_) (fun c81 => ?_)
          · refine ex_iinc (w := _ + 1) F dX7_without_87 rfl rfl (by decide) ?_
            refine ex_goto (t := 25) F dX7_without_90 (by decide) ?_
            refine ex_weak2 (ih (i + 1) _ _ (by omega) (nI_1 i) ?_) ⟨rfl, rfl, rfl, rfl, rfl, trivial⟩
            rw [sWoN, ← ho, if_neg (fun q => by rw [b2i_0.mp c81] at q; exact absurd q.2 (by decide))]
          · refine ex_iload F dX7_without_84 rfl ?_
            refine ex_istore_n F dX7_without_86 rfl (by decide) ?_
            refine ex_iinc (w := _ + 1) F dX7_without_87 rfl rfl (by decide) ?_
            refine ex_goto (t := 25) F dX7_without_90 (by decide) ?_
            refine ex_weak2 (ih (i + 1) _ _ (by omega) (nI_1 i) ?_) ⟨rfl, rfl, rfl, rfl, rfl, trivial⟩
            rw [sWoN, ← ho, if_pos ⟨Or.inl c34, b2i_1.mp c81⟩]
        · refine ex_iload F dX7_without_37 rfl ?_
          refine ex_callSi F (c_J6_bitCount_0f7a4) dX7_without_39 cs_X7_without_176 rfl rfl (Nat.le_of_ble_eq_true rfl) (fun v39 M39 h39 => ?_)
          obtain ⟨rfl, q39⟩ := h39
          rw [q39]
          clear q39
          refine ex_iload_n F dX7_without_42 rfl rfl ?_
          refine ex_callSi F (c_J6_bitCount_0f7a4) dX7_without_43 cs_X7_without_176 rfl rfl (Nat.le_of_ble_eq_true rfl) (fun v43 M43 h43 => ?_)
          obtain ⟨rfl, q43⟩ := h43
          rw [q43]
          clear q43
          refine ex_icmp_ge (t := 53) F dX7_without_46 (by decide) (fun c46 => ?_) (fun c46 => ?_)
          · refine ex_iconst (v := 0) F dX7_without_53 (by decide) ?_
            refine ex_istore F dX7_without_54 (by decide) ?_
            refine ex_iload F dX7_without_56 rfl ?_
            refine ex_if_eq (t := 87) F dX7_without_58 (by decide) (fun _ => ?_) (fun c => absurd (by decide) c)
            refine ex_iinc (w := _ + 1) F dX7_without_87 rfl rfl (by decide) ?_
            refine ex_goto (t := 25) F dX7_without_90 (by decide) ?_
            refine ex_weak2 (ih (i + 1) _ _ (by omega) (nI_1 i) ?_) ⟨rfl, rfl, rfl, rfl, rfl, trivial⟩
            rw [sWoN, ← ho, if_neg (fun q => q.1.elim c34 (fun z => absurd z (Int32.not_lt.mpr c46)))]
          · refine ex_iconst (v := 1) F dX7_without_49 (by decide) ?_
            refine ex_goto (t := 54) F dX7_without_50 (by decide) ?_
            refine ex_istore F dX7_without_54 (by decide) ?_
            refine ex_iload F dX7_without_56 rfl ?_
            refine ex_if_eq (t := 87) F dX7_without_58 (by decide) (fun c => absurd c (by decide)) (fun _ => ?_)
            refine ex_aload_n F dX7_without_61 rfl rfl ?_
            refine gf_7_0 F dX7_without_62 fl_X7_10 ?_
            refine ex_aload_n F dX7_without_65 rfl rfl ?_
            refine gf_7_0 F dX7_without_66 fl_X7_10 ?_
            refine ex_iload_n F dX7_without_69 rfl rfl ?_
            refine ex_iload F dX7_without_70 rfl ?_
            refine ex_iconst (v := -1) F dX7_without_72 (by decide) ?_
            refine ex_ixor F dX7_without_73 ?_
            refine ex_iand F dX7_without_74 ?_
            refine ex_callVi F (c_X6_hardOf) dX7_without_75 cs_X7_without_181 (ob_6 (by decide)) rfl rfl rfl rfl (Nat.le_of_ble_eq_true rfl) (fun v75 M75 h75 => ?_)
            obtain ⟨rfl, q75⟩ := h75
            rw [q75]
            clear q75
            refine ex_callVi F (c_X6_isGood) dX7_without_78 cs_X7_without_184 (ob_6 (by decide)) rfl rfl rfl rfl (Nat.le_of_ble_eq_true rfl) (fun v78 M78 h78 => ?_)
            obtain ⟨rfl, q78⟩ := h78
            rw [q78]
            clear q78
            refine ex_if_eq (t := 87) F dX7_without_81 (by decide) (fun c81 => ?_) (fun c81 => ?_)
            · refine ex_iinc (w := _ + 1) F dX7_without_87 rfl rfl (by decide) ?_
              refine ex_goto (t := 25) F dX7_without_90 (by decide) ?_
              refine ex_weak2 (ih (i + 1) _ _ (by omega) (nI_1 i) ?_) ⟨rfl, rfl, rfl, rfl, rfl, trivial⟩
              rw [sWoN, ← ho, if_neg (fun q => by rw [b2i_0.mp c81] at q; exact absurd q.2 (by decide))]
            · refine ex_iload F dX7_without_84 rfl ?_
              refine ex_istore_n F dX7_without_86 rfl (by decide) ?_
              refine ex_iinc (w := _ + 1) F dX7_without_87 rfl rfl (by decide) ?_
              refine ex_goto (t := 25) F dX7_without_90 (by decide) ?_
              refine ex_weak2 (ih (i + 1) _ _ (by omega) (nI_1 i) ?_) ⟨rfl, rfl, rfl, rfl, rfl, trivial⟩
              rw [sWoN, ← ho, if_pos ⟨Or.inr (Int32.not_le.mp c46), b2i_1.mp c81⟩]
    exact ex_weak2 (key al 0 _ _ (by omega) rfl rfl) ⟨rfl, rfl, rfl, rfl, rfl, trivial⟩
  · refine ex_iconst (v := -1) F dX7_without_9 (by decide) ?_
    exact ex_iret F R dX7_without_10 rfl (⟨by rw [if_pos (b2i_1.mp c6)], rfl⟩)
theorem cs_X7_isAsSeen_108 : CSV (xmN YX7_isAsSeen).cls (xmF YX7_isAsSeen) (xmW YX7_isAsSeen) 108 3 YX1_fillWith := ⟨⟨ml_X7_108, ini_X1, cd_X1_fillWith, by decide +kernel, by decide⟩, im_X1_fillWith, se_X1_fillWith⟩
theorem cs_X7_isAsSeen_166 : CSV (xmN YX7_isAsSeen).cls (xmF YX7_isAsSeen) (xmW YX7_isAsSeen) 166 2 YX7_turnTrialTillCome := ⟨⟨ml_X7_166, ini_X7, cd_X7_turnTrialTillCome, by decide +kernel, by decide⟩, im_X7_turnTrialTillCome, se_X7_turnTrialTillCome⟩
set_option maxRecDepth 100000 in
theorem c_X7_isAsSeen {l : Launch} {g : XG} {M : Mem} {w0 p : Int32} {xx pp k : Nat} (hR : okR (M 2)) (hO : tO M) (h16 : zC (cX M 16)) (lx : xx ≤ 400) (hw : w0 = nI xx) (hp : p = nI pp) (lp : pp ≤ 9) (hSe : seenO M k) : Call l g YX7_isAsSeen [.ref (ad g 0), .int w0, .int p] M (PI (fun v M' => v = b2i (sSoN M w0 p k 0) ∧ ∃ c, zC c ∧ M' = putC M 16 c)) := by
  refine call_of (by decide +kernel) (Nat.le_of_ble_eq_true rfl) (fun x hxl F R => ?_)
  subst hxl
  obtain ⟨lk, hk, hS⟩ := hSe
  refine ex_iconst (v := 0) F dX7_isAsSeen_0 (by decide) ?_
  refine ex_istore_n F dX7_isAsSeen_1 rfl (by decide) ?_
  have key : ∀ (m i : Nat) (v : Int32) (c : Nat → Int32), i + m = k → v = nI i → zC c → sSoN M w0 p m i = sSoN M w0 p k 0 → EX x g (xmL YX7_isAsSeen) (putC M 16 c) 2 [(0, .ref (ad g 0)), (1, .int w0), (2, .int p), (3, .int v)] [] := by
    intro m
    induction m with
    | zero =>
      intro i v c hi hv hz hs
      obtain rfl : i = k := by omega
      subst hv
      refine ex_iload_n F dX7_isAsSeen_2 rfl rfl ?_
      refine ex_aload_n F dX7_isAsSeen_3 rfl rfl ?_
      refine gf_7_10 F dX7_isAsSeen_4 fl_X7_112 ?_
      refine ex_icmp_ge (t := 119) F dX7_isAsSeen_7 (by decide) (fun _ => ?_) (fun c => absurd (show M 0 10 ≤ nI i from by rw [hk]; exact Int32.le_refl _) c)
      refine ex_iconst (v := 1) F dX7_isAsSeen_119 (by decide) ?_
      exact ex_zret (ty := .boolean) F R dX7_isAsSeen_120 rfl (rfl) (⟨by rw [← hs]; rfl, c, hz, rfl⟩)
    | succ m ih =>
      intro i v c hi hv hz hs
      subst hv
      obtain ⟨hbi, t, lt, ht⟩ := hS i (by omega)
      have hCf : okC 0 (sRowB M (M 35 i) w0) := row_ok hO hbi lx hw
      refine ex_iload_n F dX7_isAsSeen_2 rfl rfl ?_
      refine ex_aload_n F dX7_isAsSeen_3 rfl rfl ?_
      refine gf_7_10 F dX7_isAsSeen_4 fl_X7_112 ?_
      refine ex_icmp_ge (t := 119) F dX7_isAsSeen_7 (by decide) (fun c => absurd c (show ¬ M 0 10 ≤ nI i from by rw [hk]; exact nI_ge (by omega) (by omega))) (fun _ => ?_)
      refine ex_iload_n F dX7_isAsSeen_10 rfl rfl ?_
      refine ex_aload_n F dX7_isAsSeen_11 rfl rfl ?_
      refine gf_7_7 F dX7_isAsSeen_12 fl_X7_54 ?_
      refine ex_ilen (n := 8) (v := 8) F dX7_isAsSeen_15 (by decide) (by decide) ?_
      refine ex_icmp_ge (t := 119) F dX7_isAsSeen_16 (by decide) (fun c => absurd c (nI_ge (b := 8) (by omega) (by decide))) (fun _ => ?_)
      refine ex_iload_n F dX7_isAsSeen_19 rfl rfl ?_
      refine ex_aload_n F dX7_isAsSeen_20 rfl rfl ?_
      refine gf_7_8 F dX7_isAsSeen_21 fl_X7_58 ?_
      refine ex_ilen (n := 8) (v := 8) F dX7_isAsSeen_24 (by decide) (by decide) ?_
      refine ex_icmp_ge (t := 119) F dX7_isAsSeen_25 (by decide) (fun c => absurd c (nI_ge (b := 8) (by omega) (by decide))) (fun _ => ?_)
      refine ex_aload_n F dX7_isAsSeen_28 rfl rfl ?_
      refine gf_7_8 F dX7_isAsSeen_29 fl_X7_58 ?_
      refine ex_iload_n F dX7_isAsSeen_32 rfl rfl ?_
      refine ex_iald (n := 8) F dX7_isAsSeen_33 (by decide) (vp_in_nI (by omega) (by decide)) (j := i) (nI_clamp (by omega)) ?_
      refine ex_if_le (t := 41) F dX7_isAsSeen_34 (by decide) (fun c34 => ?_) (fun c34 => ?_)
      · refine ex_iconst (v := 0) F dX7_isAsSeen_41 (by decide) ?_
        refine ex_istore F dX7_isAsSeen_42 (by decide) ?_
        refine ex_iload F dX7_isAsSeen_44 rfl ?_
        refine ex_if_eq (t := 58) F dX7_isAsSeen_46 (by decide) (fun _ => ?_) (fun c => absurd (by decide) c)
        refine ex_sipush (v := 400) F dX7_isAsSeen_58 (by decide) ?_
        refine ex_istore F dX7_isAsSeen_61 (by decide) ?_
        refine ex_aload_n F dX7_isAsSeen_63 rfl rfl ?_
        refine gf_7_3 F dX7_isAsSeen_64 fl_X7_30 ?_
        refine ex_aload_n F dX7_isAsSeen_67 rfl rfl ?_
        refine gf_7_0 F dX7_isAsSeen_68 fl_X7_10 ?_
        refine ex_aload_n F dX7_isAsSeen_71 rfl rfl ?_
        refine gf_7_7 F dX7_isAsSeen_72 fl_X7_54 ?_
        refine ex_iload_n F dX7_isAsSeen_75 rfl rfl ?_
        refine ex_iald (n := 8) F dX7_isAsSeen_76 (by decide) (vp_in_nI (by omega) (by decide)) (j := i) (nI_clamp (by omega)) ?_
        refine ex_iload_n F dX7_isAsSeen_77 rfl rfl ?_
        refine ex_callVv F (c_X1_fillWith (M := putC M 16 c) (k := 16) (by decide)) dX7_isAsSeen_78 cs_X7_isAsSeen_108 (ob_1 (by decide)) rfl rfl rfl rfl (Nat.le_of_ble_eq_true rfl) (fun M78 h78 => ?_)
        rw [cX_putC, fill_z hz, putC_putC] at h78
        have h78 : M78 = putC M 16 (sRowB M (M 35 i) w0) := h78
        rw [h78]
        clear h78
        refine ex_aload_n F dX7_isAsSeen_81 rfl rfl ?_
        refine ex_iload_n F dX7_isAsSeen_82 rfl rfl ?_
        refine ex_iload F dX7_isAsSeen_83 rfl ?_
        refine ex_callVi F (c_X7_turnTrialTillCome (M := putC M 16 _) (mm := 400) (T := 0) hR (by rw [cX_putC]; exact hCf) (by decide) (by decide) hp lp rfl (by rw [cX_putC]; rfl)) dX7_isAsSeen_85 cs_X7_isAsSeen_166 ob_7 rfl rfl rfl rfl (Nat.le_of_ble_eq_true rfl) (fun v85 M85 h85 => ?_)
        obtain ⟨e85, n85, -, q85, -⟩ := h85
        rw [cX_putC] at e85
        rw [cX_putC, putC_putC] at q85
        have e85 : v85 = sTillN (M 2) p (sRowB M (M 35 i) w0) 400 1 := e85
        have q85 : M85 = putC M 16 (itT (M 2) p n85 (sRowB M (M 35 i) w0)) := q85
        have hz2 : zC (itT (M 2) p n85 (sRowB M (M 35 i) w0)) := zC_it _ hCf.2.2.2.2
        rw [q85]
        clear q85
        have g34 : ¬ 0 < M 36 i := Int32.not_lt.mpr c34
        have em : sMo (M 36 i) = 400 := by rw [sMo, if_neg g34]
        refine ex_istore F dX7_isAsSeen_88 (by decide) ?_
        refine ex_iload F dX7_isAsSeen_90 rfl ?_
        refine ex_iload F dX7_isAsSeen_92 rfl ?_
        refine ex_if_eq (t := 106) F dX7_isAsSeen_94 (by decide) (fun _ => ?_) (fun c => absurd (by decide) c)
        refine ex_bipush (v := -4) F dX7_isAsSeen_106 (by decide) ?_
        refine ex_icmp_eq (t := 113) F dX7_isAsSeen_108 (by decide) (fun c108 => ?_) (fun c108 => ?_)
        · refine ex_iinc (w := _ + 1) F dX7_isAsSeen_113 rfl rfl (by decide) ?_
          refine ex_goto (t := 2) F dX7_isAsSeen_116 (by decide) ?_
          refine ex_weak2 (ih (i + 1) _ _ (by omega) (nI_1 i) hz2 ?_) ⟨rfl, rfl, rfl, rfl, trivial⟩
          have hf : sSo1 M w0 p i = true := by rw [sSo1, em, ← e85, if_neg g34]; exact decide_eq_true c108
          rw [← hs, sSoN, if_pos hf]
        · refine ex_iconst (v := 0) F dX7_isAsSeen_111 (by decide) ?_
          exact ex_zret (ty := .boolean) F R dX7_isAsSeen_112 rfl (rfl) (⟨by have hf : sSo1 M w0 p i = false := (by rw [sSo1, em, ← e85, if_neg g34]; exact decide_eq_false c108); rw [← hs, sSoN, if_neg (by rw [hf]; decide)]; rfl, _, hz2, rfl⟩)
      · refine ex_iconst (v := 1) F dX7_isAsSeen_37 (by decide) ?_
        refine ex_goto (t := 42) F dX7_isAsSeen_38 (by decide) ?_
        refine ex_istore F dX7_isAsSeen_42 (by decide) ?_
        refine ex_iload F dX7_isAsSeen_44 rfl ?_
        refine ex_if_eq (t := 58) F dX7_isAsSeen_46 (by decide) (fun c => absurd c (by decide)) (fun _ => ?_)
        refine ex_aload_n F dX7_isAsSeen_49 rfl rfl ?_
        refine gf_7_8 F dX7_isAsSeen_50 fl_X7_58 ?_
        refine ex_iload_n F dX7_isAsSeen_53 rfl rfl ?_
        refine ex_iald (n := 8) F dX7_isAsSeen_54 (by decide) (vp_in_nI (by omega) (by decide)) (j := i) (nI_clamp (by omega)) ?_
        refine ex_goto (t := 61) F dX7_isAsSeen_55 (by decide) ?_
        refine ex_istore F dX7_isAsSeen_61 (by decide) ?_
        refine ex_aload_n F dX7_isAsSeen_63 rfl rfl ?_
        refine gf_7_3 F dX7_isAsSeen_64 fl_X7_30 ?_
        refine ex_aload_n F dX7_isAsSeen_67 rfl rfl ?_
        refine gf_7_0 F dX7_isAsSeen_68 fl_X7_10 ?_
        refine ex_aload_n F dX7_isAsSeen_71 rfl rfl ?_
        refine gf_7_7 F dX7_isAsSeen_72 fl_X7_54 ?_
        refine ex_iload_n F dX7_isAsSeen_75 rfl rfl ?_
        refine ex_iald (n := 8) F dX7_isAsSeen_76 (by decide) (vp_in_nI (by omega) (by decide)) (j := i) (nI_clamp (by omega)) ?_
        refine ex_iload_n F dX7_isAsSeen_77 rfl rfl ?_
        refine ex_callVv F (c_X1_fillWith (M := putC M 16 c) (k := 16) (by decide)) dX7_isAsSeen_78 cs_X7_isAsSeen_108 (ob_1 (by decide)) rfl rfl rfl rfl (Nat.le_of_ble_eq_true rfl) (fun M78 h78 => ?_)
        rw [cX_putC, fill_z hz, putC_putC] at h78
        have h78 : M78 = putC M 16 (sRowB M (M 35 i) w0) := h78
        rw [h78]
        clear h78
        refine ex_aload_n F dX7_isAsSeen_81 rfl rfl ?_
        refine ex_iload_n F dX7_isAsSeen_82 rfl rfl ?_
        refine ex_iload F dX7_isAsSeen_83 rfl ?_
        refine ex_callVi F (c_X7_turnTrialTillCome (M := putC M 16 _) (mm := t) (T := 0) hR (by rw [cX_putC]; exact hCf) (by omega) (by omega) hp lp ht (by rw [cX_putC]; rfl)) dX7_isAsSeen_85 cs_X7_isAsSeen_166 ob_7 rfl rfl rfl rfl (Nat.le_of_ble_eq_true rfl) (fun v85 M85 h85 => ?_)
        obtain ⟨e85, n85, -, q85, -⟩ := h85
        rw [cX_putC] at e85
        rw [cX_putC, putC_putC] at q85
        have e85 : v85 = sTillN (M 2) p (sRowB M (M 35 i) w0) t 1 := e85
        have q85 : M85 = putC M 16 (itT (M 2) p n85 (sRowB M (M 35 i) w0)) := q85
        have hz2 : zC (itT (M 2) p n85 (sRowB M (M 35 i) w0)) := zC_it _ hCf.2.2.2.2
        rw [q85]
        clear q85
        have g34 : 0 < M 36 i := Int32.not_le.mp c34
        have em : sMo (M 36 i) = t := by rw [sMo, if_pos g34, ht]; exact nI_clamp (by omega)
        refine ex_istore F dX7_isAsSeen_88 (by decide) ?_
        refine ex_iload F dX7_isAsSeen_90 rfl ?_
        refine ex_iload F dX7_isAsSeen_92 rfl ?_
        refine ex_if_eq (t := 106) F dX7_isAsSeen_94 (by decide) (fun c => absurd c (by decide)) (fun _ => ?_)
        refine ex_aload_n F dX7_isAsSeen_97 rfl rfl ?_
        refine gf_7_8 F dX7_isAsSeen_98 fl_X7_58 ?_
        refine ex_iload_n F dX7_isAsSeen_101 rfl rfl ?_
        refine ex_iald (n := 8) F dX7_isAsSeen_102 (by decide) (vp_in_nI (by omega) (by decide)) (j := i) (nI_clamp (by omega)) ?_
        refine ex_goto (t := 108) F dX7_isAsSeen_103 (by decide) ?_
        refine ex_icmp_eq (t := 113) F dX7_isAsSeen_108 (by decide) (fun c108 => ?_) (fun c108 => ?_)
        · refine ex_iinc (w := _ + 1) F dX7_isAsSeen_113 rfl rfl (by decide) ?_
          refine ex_goto (t := 2) F dX7_isAsSeen_116 (by decide) ?_
          refine ex_weak2 (ih (i + 1) _ _ (by omega) (nI_1 i) hz2 ?_) ⟨rfl, rfl, rfl, rfl, trivial⟩
          have hf : sSo1 M w0 p i = true := by rw [sSo1, em, ← e85, if_pos g34]; exact decide_eq_true c108
          rw [← hs, sSoN, if_pos hf]
        · refine ex_iconst (v := 0) F dX7_isAsSeen_111 (by decide) ?_
          exact ex_zret (ty := .boolean) F R dX7_isAsSeen_112 rfl (rfl) (⟨by have hf : sSo1 M w0 p i = false := (by rw [sSo1, em, ← e85, if_pos g34]; exact decide_eq_false c108); rw [← hs, sSoN, if_neg (by rw [hf]; decide)]; rfl, _, hz2, rfl⟩)
  exact ex_M (putC_cX M 16).symm (ex_weak2 (key k 0 _ _ (by omega) rfl h16 rfl) ⟨rfl, rfl, rfl, rfl, trivial⟩)
theorem cs_X7_why_85 : CSS (xmN YX7_why).cls (xmF YX7_why) (xmW YX7_why) 85 3 YX7_outside := ⟨⟨ml_X7_85, ini_X7, cd_X7_outside, by decide +kernel, by decide⟩, st_X7_outside⟩
theorem cs_X7_why_187 : CSV (xmN YX7_why).cls (xmF YX7_why) (xmW YX7_why) 187 2 YX7_isAsSeen := ⟨⟨ml_X7_187, ini_X7, cd_X7_isAsSeen, by decide +kernel, by decide⟩, im_X7_isAsSeen, se_X7_isAsSeen⟩
set_option maxRecDepth 100000 in
theorem c_X7_why {l : Launch} {g : XG} {M : Mem} {wh : Int32} {k : Nat} (hR : okR (M 2)) (hO : tO M) (h16 : zC (cX M 16)) (hSe : seenO M k) : Call l g YX7_why [.ref (ad g 0), .int wh] M (PI (fun v M' => v = (if outB wh 0 2 = true then -1 else sWhyN M k wh 189 0 0) ∧ jX M M')) := by
  refine call_of (by decide +kernel) (Nat.le_of_ble_eq_true rfl) (fun x hxl F R => ?_)
  subst hxl
  refine ex_iload_n F dX7_why_0 rfl rfl ?_
  refine ex_iconst (v := 0) F dX7_why_1 (by decide) ?_
  refine ex_iconst (v := 2) F dX7_why_2 (by decide) ?_
  refine ex_callSi F (c_X7_outside) dX7_why_3 cs_X7_why_85 rfl rfl (Nat.le_of_ble_eq_true rfl) (fun v3 M3 h3 => ?_)
  obtain ⟨rfl, q3⟩ := h3
  rw [q3]
  clear q3
  refine ex_if_eq (t := 11) F dX7_why_6 (by decide) (fun c6 => ?_) (fun c6 => ?_)
  · refine ex_iconst (v := 0) F dX7_why_11 (by decide) ?_
    refine ex_istore_n F dX7_why_12 rfl (by decide) ?_
    refine ex_iconst (v := 0) F dX7_why_13 (by decide) ?_
    refine ex_istore_n F dX7_why_14 rfl (by decide) ?_
    have key : ∀ (m a z : Nat) (v cnt : Int32) (c : Nat → Int32), a + m = 21 → z + 9 * a = 189 → v = nI (20 * a) → zC c → sWhyN M k wh z (9 * a) cnt = sWhyN M k wh 189 0 0 → EX x g (xmL YX7_why) (putC M 16 c) 15 [(0, .ref (ad g 0)), (1, .int wh), (2, .int cnt), (3, .int v)] [] := by
      generalize sWhyN M k wh 189 0 0 = W0 at R
      intro m
      induction m with
      | zero =>
        intro a z v cnt c ha hz9 hv hz hs
        obtain rfl : a = 21 := by omega
        obtain rfl : z = 0 := by omega
        subst hv
        refine ex_iload_n F dX7_why_15 rfl rfl ?_
        refine ex_sipush (v := 400) F dX7_why_16 (by decide) ?_
        refine ex_icmp_gt (t := 73) F dX7_why_19 (by decide) (fun _ => ?_) (fun c => absurd (by decide) c)
        refine ex_iload_n F dX7_why_73 rfl rfl ?_
        refine ex_if_ne (t := 81) F dX7_why_74 (by decide) (fun c74 => ?_) (fun c74 => ?_)
        · refine ex_bipush (v := -4) F dX7_why_81 (by decide) ?_
          exact ex_iret F R dX7_why_83 rfl (⟨by rw [if_neg (by rw [b2i_0.mp c6]; decide), ← hs, sWhyN, if_neg c74], jX_put hz⟩)
        · refine ex_iload_n F dX7_why_77 rfl rfl ?_
          refine ex_goto (t := 83) F dX7_why_78 (by decide) ?_
          exact ex_iret F R dX7_why_83 rfl (⟨by rw [if_neg (by rw [b2i_0.mp c6]; decide), ← hs, sWhyN, if_pos c74], jX_put hz⟩)
      | succ m ih =>
        intro a z v cnt c ha hz9 hv hz hs
        subst hv
        have inner : ∀ (kk q z : Nat) (u cnt : Int32) (c : Nat → Int32), q + kk = 9 → z + (9 * a + q) = 189 → u = nI (q + 1) → zC c → sWhyN M k wh z (9 * a + q) cnt = W0 → EX x g (xmL YX7_why) (putC M 16 c) 25 [(0, .ref (ad g 0)), (1, .int wh), (2, .int cnt), (3, .int (nI (20 * a))), (4, .int u)] [] := by
          intro kk
          induction kk with
          | zero =>
            intro q z u cnt c hq hz9 hu hz hs
            obtain rfl : q = 9 := by omega
            subst hu
            refine ex_iload F dX7_why_25 rfl ?_
            refine ex_bipush (v := 9) F dX7_why_27 (by decide) ?_
            refine ex_icmp_gt (t := 67) F dX7_why_29 (by decide) (fun _ => ?_) (fun c => absurd (by decide) c)
            refine ex_iinc (w := _ + 20) F dX7_why_67 rfl rfl (by decide) ?_
            refine ex_goto (t := 15) F dX7_why_70 (by decide) ?_
            refine ex_weak2 (ih (a + 1) z _ cnt c (by omega) (by omega) ?_ hz hs) ⟨rfl, rfl, rfl, rfl, trivial⟩
            rw [show (20 : Int32) = nI 20 from rfl, nI_add]; rfl
          | succ kk ih2 =>
            intro q z u cnt c hq hz9 hu hz hs
            subst hu
            obtain ⟨z, rfl⟩ : ∃ y, z = y + 1 := ⟨z - 1, by omega⟩
            refine ex_iload F dX7_why_25 rfl ?_
            refine ex_bipush (v := 9) F dX7_why_27 (by decide) ?_
            refine ex_icmp_gt (t := 67) F dX7_why_29 (by decide) (fun c => absurd c (nI_nlt (b := q + 1) (a := 9) (by omega) (by decide))) (fun _ => ?_)
            refine ex_aload_n F dX7_why_32 rfl rfl ?_
            refine ex_iload_n F dX7_why_33 rfl rfl ?_
            refine ex_iload F dX7_why_34 rfl ?_
            refine ex_callVi F (c_X7_isAsSeen (M := putC M 16 c) (xx := 20 * a) (pp := q + 1) (k := k) hR hO (by rw [cX_putC]; exact hz) (by omega) rfl rfl (by omega) hSe) dX7_why_36 cs_X7_why_187 ob_7 rfl rfl rfl rfl (Nat.le_of_ble_eq_true rfl) (fun v36 M36 h36 => ?_)
            obtain ⟨e36, c2, hz2, q36⟩ := h36
            rw [putC_putC] at q36
            rw [sSoN_put] at e36
            have e36 : v36 = b2i (sSoN M (nI (20 * a)) (nI (q + 1)) k 0) := e36
            subst e36
            rw [q36]
            clear q36
            refine ex_if_eq (t := 61) F dX7_why_39 (by decide) (fun c39 => ?_) (fun c39 => ?_)
            · refine ex_iinc (w := _ + 1) F dX7_why_61 rfl rfl (by decide) ?_
              refine ex_goto (t := 25) F dX7_why_64 (by decide) ?_
              refine ex_weak2 (ih2 (q + 1) z _ _ _ (by omega) (by omega) (nI_1 (q + 1)) hz2 ?_) ⟨rfl, rfl, rfl, rfl, rfl, trivial⟩
              rw [sWhyN, sS_at M k (by omega), if_neg (by rw [b2i_0.mp c39]; decide)] at hs
              exact hs
            · refine ex_iload_n F dX7_why_42 rfl rfl ?_
              refine ex_if_eq (t := 58) F dX7_why_43 (by decide) (fun c43 => ?_) (fun c43 => ?_)
              · refine ex_iinc (w := _ + 1) F dX7_why_58 rfl rfl (by decide) ?_
                refine ex_iinc (w := _ + 1) F dX7_why_61 rfl rfl (by decide) ?_
                refine ex_goto (t := 25) F dX7_why_64 (by decide) ?_
                refine ex_weak2 (ih2 (q + 1) z _ _ _ (by omega) (by omega) (nI_1 (q + 1)) hz2 ?_) ⟨rfl, rfl, rfl, rfl, rfl, trivial⟩
                rw [sWhyN, sS_at M k (by omega), if_pos (b2i_1.mp c39), if_pos c43] at hs
                exact hs
              · refine ex_iload_n F dX7_why_46 rfl rfl ?_
                refine ex_iconst (v := 1) F dX7_why_47 (by decide) ?_
                refine ex_icmp_ne (t := 55) F dX7_why_48 (by decide) (fun c48 => ?_) (fun c48 => ?_)
                · refine ex_iload F dX7_why_55 rfl ?_
                  exact ex_iret F R dX7_why_57 rfl (⟨by rw [if_neg (by rw [b2i_0.mp c6]; decide), ← hs, sWhyN, sS_at M k (by omega), if_pos (b2i_1.mp c39), if_neg c43, if_neg c48, show (9 * a + q) % 9 = q by omega], jX_put hz2⟩)
                · refine ex_iload_n F dX7_why_51 rfl rfl ?_
                  refine ex_goto (t := 57) F dX7_why_52 (by decide) ?_
                  exact ex_iret F R dX7_why_57 rfl (⟨by rw [if_neg (by rw [b2i_0.mp c6]; decide), ← hs, sWhyN, sS_at M k (by omega), if_pos (b2i_1.mp c39), if_neg c43, if_pos c48, show (9 * a + q) / 9 = a by omega], jX_put hz2⟩)
        refine ex_iload_n F dX7_why_15 rfl rfl ?_
        refine ex_sipush (v := 400) F dX7_why_16 (by decide) ?_
        refine ex_icmp_gt (t := 73) F dX7_why_19 (by decide) (fun c => absurd c (nI_nlt (b := 20 * a) (a := 400) (by omega) (by decide))) (fun _ => ?_)
        refine ex_iconst (v := 1) F dX7_why_22 (by decide) ?_
        refine ex_istore F dX7_why_23 (by decide) ?_
        exact ex_weak2 (inner 9 0 z _ cnt c (by omega) (by omega) rfl hz hs) ⟨rfl, rfl, rfl, rfl, rfl, trivial⟩
    exact ex_M (putC_cX M 16).symm (ex_weak2 (key 21 0 189 _ _ _ (by omega) (by omega) rfl h16 rfl) ⟨rfl, rfl, rfl, rfl, trivial⟩)
  · refine ex_iconst (v := -1) F dX7_why_9 (by decide) ?_
    exact ex_iret F R dX7_why_10 rfl (⟨by rw [if_pos (b2i_1.mp c6)], jX_rf h16⟩)
theorem cs_X7_saw_135 : CSV (xmN YX7_saw).cls (xmF YX7_saw) (xmW YX7_saw) 135 1 YX6_hasCows := ⟨⟨ml_X7_135, ini_X6, cd_X6_hasCows, by decide +kernel, by decide⟩, im_X6_hasCows, se_X6_hasCows⟩
theorem cs_X7_saw_85 : CSS (xmN YX7_saw).cls (xmF YX7_saw) (xmW YX7_saw) 85 3 YX7_outside := ⟨⟨ml_X7_85, ini_X7, cd_X7_outside, by decide +kernel, by decide⟩, st_X7_outside⟩
set_option maxRecDepth 100000 in
theorem c_X7_saw {l : Launch} {g : XG} {M : Mem} {b t : Int32} {k : Nat} (hk : M 0 10 = nI k) (lk : k ≤ 8) : Call l g YX7_saw [.ref (ad g 0), .int b, .int t] M (PI (fun v M' => v = (if (!sHasCows (M 1 4) b || outB t 0 400) = true then -1 else if k < 8 then nI (k + 1) else -3) ∧ M' = (if (!sHasCows (M 1 4) b || outB t 0 400) = true then M else if k < 8 then mu (mu (mu M 35 k b) 36 k t) 0 10 (nI (k + 1)) else M))) := by
  refine call_of (by decide +kernel) (Nat.le_of_ble_eq_true rfl) (fun x hxl F R => ?_)
  subst hxl
  refine ex_aload_n F dX7_saw_0 rfl rfl ?_
  refine gf_7_0 F dX7_saw_1 fl_X7_10 ?_
  refine ex_iload_n F dX7_saw_4 rfl rfl ?_
  refine ex_callVi F (c_X6_hasCows) dX7_saw_5 cs_X7_saw_135 (ob_6 (by decide)) rfl rfl rfl rfl (Nat.le_of_ble_eq_true rfl) (fun v5 M5 h5 => ?_)
  obtain ⟨rfl, q5⟩ := h5
  rw [q5]
  clear q5
  refine ex_if_eq (t := 22) F dX7_saw_8 (by decide) (fun c8 => ?_) (fun c8 => ?_)
  · refine ex_iconst (v := -1) F dX7_saw_22 (by decide) ?_
    exact ex_iret F R dX7_saw_23 rfl (⟨by simp [b2i_0.mp c8], by simp [b2i_0.mp c8]⟩)
  · refine ex_iload_n F dX7_saw_11 rfl rfl ?_
    refine ex_iconst (v := 0) F dX7_saw_12 (by decide) ?_
    refine ex_sipush (v := 400) F dX7_saw_13 (by decide) ?_
    refine ex_callSi F (c_X7_outside) dX7_saw_16 cs_X7_saw_85 rfl rfl (Nat.le_of_ble_eq_true rfl) (fun v16 M16 h16 => ?_)
    obtain ⟨rfl, q16⟩ := h16
    rw [q16]
    clear q16
    refine ex_if_eq (t := 24) F dX7_saw_19 (by decide) (fun c19 => ?_) (fun c19 => ?_)
    · refine ex_aload_n F dX7_saw_24 rfl rfl ?_
      refine gf_7_10 F dX7_saw_25 fl_X7_112 ?_
      refine ex_aload_n F dX7_saw_28 rfl rfl ?_
      refine gf_7_7 F dX7_saw_29 fl_X7_54 ?_
      refine ex_ilen (n := 8) (v := 8) F dX7_saw_32 (by decide) (by decide) ?_
      refine ex_icmp_ge (t := 48) F dX7_saw_33 (by decide) (fun c33 => ?_) (fun c33 => ?_)
      · refine ex_bipush (v := -3) F dX7_saw_48 (by decide) ?_
        exact ex_iret F R dX7_saw_50 rfl (⟨by have l8 : ¬ k < 8 := (fun q => nI_ge (b := 8) q (by decide) (by rw [hk] at c33; exact c33)); simp [b2i_1.mp c8, b2i_0.mp c19, l8], by have l8 : ¬ k < 8 := (fun q => nI_ge (b := 8) q (by decide) (by rw [hk] at c33; exact c33)); simp [b2i_1.mp c8, b2i_0.mp c19, l8]⟩)
      · have l8 : k < 8 := nI_ltof (b := 8) (by omega) (by rw [hk] at c33; exact c33)
        refine ex_aload_n F dX7_saw_36 rfl rfl ?_
        refine gf_7_10 F dX7_saw_37 fl_X7_112 ?_
        refine ex_aload_n F dX7_saw_40 rfl rfl ?_
        refine gf_7_8 F dX7_saw_41 fl_X7_58 ?_
        refine ex_ilen (n := 8) (v := 8) F dX7_saw_44 (by decide) (by decide) ?_
        refine ex_icmp_lt (t := 51) F dX7_saw_45 (by decide) (fun c45 => ?_) (fun c45 => ?_)
        · refine ex_aload_n F dX7_saw_51 rfl rfl ?_
          refine gf_7_7 F dX7_saw_52 fl_X7_54 ?_
          refine ex_aload_n F dX7_saw_55 rfl rfl ?_
          refine gf_7_10 F dX7_saw_56 fl_X7_112 ?_
          refine ex_iload_n F dX7_saw_59 rfl rfl ?_
          refine ex_iast (n := 8) F dX7_saw_60 (by decide) (by rw [hk]; exact vp_in_nI (by omega) (by decide)) (j := k) (by rw [hk]; exact nI_clamp (by omega)) ?_
          refine ex_aload_n F dX7_saw_61 rfl rfl ?_
          refine gf_7_8 F dX7_saw_62 fl_X7_58 ?_
          refine ex_aload_n F dX7_saw_65 rfl rfl ?_
          refine gf_7_10 F dX7_saw_66 fl_X7_112 ?_
          refine ex_iload_n F dX7_saw_69 rfl rfl ?_
          refine ex_iast (n := 8) F dX7_saw_70 (by decide) (show vp_in (M 0 10) 8 from by rw [hk]; exact vp_in_nI (by omega) (by decide)) (j := k) (show (M 0 10).toNatClampNeg = k from by rw [hk]; exact nI_clamp (by omega)) ?_
          refine ex_aload_n F dX7_saw_71 rfl rfl ?_
          refine ex_dup F dX7_saw_72 rfl ?_
          refine gf_7_10 F dX7_saw_73 fl_X7_112 ?_
          refine ex_iconst (v := 1) F dX7_saw_76 (by decide) ?_
          refine ex_iadd F dX7_saw_77 ?_
          refine pf_7_10 F dX7_saw_78 fl_X7_112 ?_
          refine ex_aload_n F dX7_saw_81 rfl rfl ?_
          refine gf_7_10 F dX7_saw_82 fl_X7_112 ?_
          exact ex_iret F R dX7_saw_85 rfl (⟨by simp [b2i_1.mp c8, b2i_0.mp c19, l8]; show M 0 10 + 1 = _; rw [hk, nI_1], by simp [b2i_1.mp c8, b2i_0.mp c19, l8]; show mu _ 0 10 (M 0 10 + 1) = _; rw [hk, nI_1]⟩)
        · refine ex_bipush (v := -3) F dX7_saw_48 (by decide) ?_
          exact ex_iret F R dX7_saw_50 rfl (⟨by exact absurd (by rw [hk]; exact nI_lt (b := 8) l8 (by decide)) c45, by exact absurd (by rw [hk]; exact nI_lt (b := 8) l8 (by decide)) c45⟩)
    · refine ex_iconst (v := -1) F dX7_saw_22 (by decide) ?_
      exact ex_iret F R dX7_saw_23 rfl (⟨by simp [b2i_1.mp c8, b2i_1.mp c19], by simp [b2i_1.mp c8, b2i_1.mp c19]⟩)
set_option maxRecDepth 100000 in
theorem c_X7_forget {l : Launch} {g : XG} {M : Mem}  : Call l g YX7_forget [.ref (ad g 0)] M (PI (fun v M' => v = M 0 10 ∧ M' = mu M 0 10 0)) := by
  refine call_of (by decide +kernel) (Nat.le_of_ble_eq_true rfl) (fun x hxl F R => ?_)
  subst hxl
  refine ex_aload_n F dX7_forget_0 rfl rfl ?_
  refine gf_7_10 F dX7_forget_1 fl_X7_112 ?_
  refine ex_istore_n F dX7_forget_4 rfl (by decide) ?_
  refine ex_aload_n F dX7_forget_5 rfl rfl ?_
  refine ex_iconst (v := 0) F dX7_forget_6 (by decide) ?_
  refine pf_7_10 F dX7_forget_7 fl_X7_112 ?_
  refine ex_iload_n F dX7_forget_10 rfl rfl ?_
  exact ex_iret F R dX7_forget_11 rfl (⟨rfl, rfl⟩)
end
section
def badWash (m w : Int32) : Bool := outB m 1 99 || outB w 0 99
def badShare (a b : Int32) : Bool := outB a 0 99 || outB b 1 99
def badWater (v p : Int32) : Bool := outB v 0 9999999 || outB p 0 6
def badRod (a b c : Int32) : Bool := outB a 0 9 || (outB b 0 9 || (outB c 0 9 || decide (a + b + c = 0)))
def sPow (v : Int64) : Nat → Int64
  | 0 => 1
  | n + 1 => sPow v n * v
theorem sPow_n (v : Nat) : ∀ n, sPow (lN v) n = lN (v ^ n) := by
  intro n
  induction n with
  | zero => rfl
  | succ n ih => rw [sPow, ih, lN_mul, Nat.pow_succ]
def sLow (x y : Nat) (wh : Int32) : Int64 := lN ((if wh = 0 then x else y) / Nat.gcd x y)
def sAbove (r a b c : Int32) : Int32 := (if 16 < r + 1 then a else 0) + (if 16 < r then b else 0) + (if 16 < r - 1 then c else 0)
theorem cmp_gt {x y : Int64} : 0 < lg_cmp x y ↔ y < x := by
  unfold lg_cmp
  split
  · rename_i h; exact ⟨fun _ => h, fun _ => by decide⟩
  · rename_i h
    split
    · exact ⟨fun q => absurd q (by decide), fun q => absurd q h⟩
    · exact ⟨fun q => absurd q (by decide), fun q => absurd q h⟩
theorem cmp_eq {x y : Int64} : lg_cmp x y = 0 ↔ x = y := by
  unfold lg_cmp
  split
  · rename_i h
    exact ⟨fun q => absurd q (by decide), fun q => by subst q; exact absurd h (Int64.lt_irrefl)⟩
  · split
    · rename_i h; exact ⟨fun _ => h, fun _ => rfl⟩
    · rename_i h; exact ⟨fun q => absurd q (by decide), fun q => absurd q h⟩
theorem mod_half {a b : Nat} (hb : 0 < b) (h : b < a) : 2 * (a % b) < a := by
  have h1 := Nat.mod_lt a hb
  have h2 := Nat.div_add_mod a b
  have h3 : 1 ≤ a / b := Nat.div_pos (Nat.le_of_lt h) hb
  have h4 : b * 1 ≤ b * (a / b) := Nat.mul_le_mul_left b h3
  omega
def sWashN (m w a b : Int32) : Nat → Nat → Int32
  | 0, _ => -4
  | n + 1, k => if sPow m.toInt64 (k + 1) * b.toInt64 ≤ a.toInt64 * sPow (m + w).toInt64 k then nI k else sWashN m w a b n (k + 1)
def sPr (m w x : Int32) : Int32 := (m + x) * (m + w - x)
def sSpl (m w : Int32) : Nat → Int32
  | 0 => 0
  | n + 1 => if sPr m w (sSpl m w n) < sPr m w (nI (n + 1)) then nI (n + 1) else sSpl m w n
def figN (v : Int32) : Nat → Int32
  | 0 => v
  | n + 1 => figN v n / 10
def sDig (v : Int32) (j : Nat) : Int32 := figN v j - figN v j / 10 * 10
def sPass (f : Nat → Int32) : Nat → Int32 := fun j => if j = 0 then f 0 + 2 * f 1 else if j < 6 then 2 * f (j + 1) else 0
def sWat (v : Int32) : Nat → Nat → Int32
  | 0 => sDig v
  | p + 1 => sPass (sWat v p)
def sGreat (f : Nat → Int32) : Nat → Int32
  | 0 => 0
  | n + 1 => if 0 < f n then nI n else sGreat f n
def sNear (a b c x y i : Int32) : Nat → Int32
  | 0 => i
  | r + 1 => if sAbove (nI r) a b c * y ≤ x * (a + b + c) then nI r else sNear a b c x y i r
def wayN (n : Nat) : Nat → Nat
  | 0 => 1
  | i + 1 => wayN n i * (n - i) / (i + 1)
def sumW (n k a b : Nat) : Nat → Nat
  | 0 => 0
  | i + 1 => if k ≤ i then sumW n k a b i + wayN n i * a ^ i * (b - a) ^ (n - i) else sumW n k a b i
def badWitch (n k a b wh : Int32) : Bool := outB n 1 12 || (outB k 0 n || (outB b 1 9 || (outB a 0 b || outB wh 0 1)))
theorem cs_X7_isBadWash_85 : CSS (xmN YX7_isBadWash).cls (xmF YX7_isBadWash) (xmW YX7_isBadWash) 85 3 YX7_outside := ⟨⟨ml_X7_85, ini_X7, cd_X7_outside, by decide +kernel, by decide⟩, st_X7_outside⟩
set_option maxRecDepth 100000 in
theorem c_X7_isBadWash {l : Launch} {g : XG} {M : Mem} {m w0 : Int32} : Call l g YX7_isBadWash [.int m, .int w0] M (PI (fun v M' => v = b2i (badWash m w0) ∧ M' = M)) := by
  refine call_of (by decide +kernel) (Nat.le_of_ble_eq_true rfl) (fun x hxl F R => ?_)
  subst hxl
  refine ex_iload_n F dX7_isBadWash_0 rfl rfl ?_
  refine ex_iconst (v := 1) F dX7_isBadWash_1 (by decide) ?_
  refine ex_bipush (v := 99) F dX7_isBadWash_2 (by decide) ?_
  refine ex_callSi F (c_X7_outside) dX7_isBadWash_4 cs_X7_isBadWash_85 rfl rfl (Nat.le_of_ble_eq_true rfl) (fun v4 M4 h4 => ?_)
  obtain ⟨rfl, q4⟩ := h4
  rw [q4]
  clear q4
  refine ex_if_ne (t := 20) F dX7_isBadWash_7 (by decide) (fun c7 => ?_) (fun c7 => ?_)
  · refine ex_iconst (v := 1) F dX7_isBadWash_20 (by decide) ?_
    refine ex_goto (t := 25) F dX7_isBadWash_21 (by decide) ?_
    exact ex_zret (ty := .boolean) F R dX7_isBadWash_25 rfl (rfl) (⟨by simp [badWash, b2i_1.mp c7]; rfl, rfl⟩)
  · refine ex_iload_n F dX7_isBadWash_10 rfl rfl ?_
    refine ex_iconst (v := 0) F dX7_isBadWash_11 (by decide) ?_
    refine ex_bipush (v := 99) F dX7_isBadWash_12 (by decide) ?_
    refine ex_callSi F (c_X7_outside) dX7_isBadWash_14 cs_X7_isBadWash_85 rfl rfl (Nat.le_of_ble_eq_true rfl) (fun v14 M14 h14 => ?_)
    obtain ⟨rfl, q14⟩ := h14
    rw [q14]
    clear q14
    refine ex_if_eq (t := 24) F dX7_isBadWash_17 (by decide) (fun c17 => ?_) (fun c17 => ?_)
    · refine ex_iconst (v := 0) F dX7_isBadWash_24 (by decide) ?_
      exact ex_zret (ty := .boolean) F R dX7_isBadWash_25 rfl (rfl) (⟨by simp [badWash, b2i_0.mp c7, b2i_0.mp c17]; rfl, rfl⟩)
    · refine ex_iconst (v := 1) F dX7_isBadWash_20 (by decide) ?_
      refine ex_goto (t := 25) F dX7_isBadWash_21 (by decide) ?_
      exact ex_zret (ty := .boolean) F R dX7_isBadWash_25 rfl (rfl) (⟨by simp [badWash, b2i_0.mp c7, b2i_1.mp c17]; rfl, rfl⟩)
theorem cs_X7_isBadShare_85 : CSS (xmN YX7_isBadShare).cls (xmF YX7_isBadShare) (xmW YX7_isBadShare) 85 3 YX7_outside := ⟨⟨ml_X7_85, ini_X7, cd_X7_outside, by decide +kernel, by decide⟩, st_X7_outside⟩
set_option maxRecDepth 100000 in
theorem c_X7_isBadShare {l : Launch} {g : XG} {M : Mem} {a b : Int32} : Call l g YX7_isBadShare [.int a, .int b] M (PI (fun v M' => v = b2i (badShare a b) ∧ M' = M)) := by
  refine call_of (by decide +kernel) (Nat.le_of_ble_eq_true rfl) (fun x hxl F R => ?_)
  subst hxl
  refine ex_iload_n F dX7_isBadShare_0 rfl rfl ?_
  refine ex_iconst (v := 0) F dX7_isBadShare_1 (by decide) ?_
  refine ex_bipush (v := 99) F dX7_isBadShare_2 (by decide) ?_
  refine ex_callSi F (c_X7_outside) dX7_isBadShare_4 cs_X7_isBadShare_85 rfl rfl (Nat.le_of_ble_eq_true rfl) (fun v4 M4 h4 => ?_)
  obtain ⟨rfl, q4⟩ := h4
  rw [q4]
  clear q4
  refine ex_if_ne (t := 20) F dX7_isBadShare_7 (by decide) (fun c7 => ?_) (fun c7 => ?_)
  · refine ex_iconst (v := 1) F dX7_isBadShare_20 (by decide) ?_
    refine ex_goto (t := 25) F dX7_isBadShare_21 (by decide) ?_
    exact ex_zret (ty := .boolean) F R dX7_isBadShare_25 rfl (rfl) (⟨by simp [badShare, b2i_1.mp c7]; rfl, rfl⟩)
  · refine ex_iload_n F dX7_isBadShare_10 rfl rfl ?_
    refine ex_iconst (v := 1) F dX7_isBadShare_11 (by decide) ?_
    refine ex_bipush (v := 99) F dX7_isBadShare_12 (by decide) ?_
    refine ex_callSi F (c_X7_outside) dX7_isBadShare_14 cs_X7_isBadShare_85 rfl rfl (Nat.le_of_ble_eq_true rfl) (fun v14 M14 h14 => ?_)
    obtain ⟨rfl, q14⟩ := h14
    rw [q14]
    clear q14
    refine ex_if_eq (t := 24) F dX7_isBadShare_17 (by decide) (fun c17 => ?_) (fun c17 => ?_)
    · refine ex_iconst (v := 0) F dX7_isBadShare_24 (by decide) ?_
      exact ex_zret (ty := .boolean) F R dX7_isBadShare_25 rfl (rfl) (⟨by simp [badShare, b2i_0.mp c7, b2i_0.mp c17]; rfl, rfl⟩)
    · refine ex_iconst (v := 1) F dX7_isBadShare_20 (by decide) ?_
      refine ex_goto (t := 25) F dX7_isBadShare_21 (by decide) ?_
      exact ex_zret (ty := .boolean) F R dX7_isBadShare_25 rfl (rfl) (⟨by simp [badShare, b2i_0.mp c7, b2i_1.mp c17]; rfl, rfl⟩)
theorem cs_X7_isBadWater_85 : CSS (xmN YX7_isBadWater).cls (xmF YX7_isBadWater) (xmW YX7_isBadWater) 85 3 YX7_outside := ⟨⟨ml_X7_85, ini_X7, cd_X7_outside, by decide +kernel, by decide⟩, st_X7_outside⟩
set_option maxRecDepth 100000 in
theorem c_X7_isBadWater {l : Launch} {g : XG} {M : Mem} {v0 p : Int32} : Call l g YX7_isBadWater [.int v0, .int p] M (PI (fun v M' => v = b2i (badWater v0 p) ∧ M' = M)) := by
  refine call_of (by decide +kernel) (Nat.le_of_ble_eq_true rfl) (fun x hxl F R => ?_)
  subst hxl
  refine ex_iload_n F dX7_isBadWater_0 rfl rfl ?_
  refine ex_iconst (v := 0) F dX7_isBadWater_1 (by decide) ?_
  refine ex_ldcw F dX7_isBadWater_2 kc_X7_273 ?_
  refine ex_callSi F (c_X7_outside) dX7_isBadWater_5 cs_X7_isBadWater_85 rfl rfl (Nat.le_of_ble_eq_true rfl) (fun v5 M5 h5 => ?_)
  obtain ⟨rfl, q5⟩ := h5
  rw [q5]
  clear q5
  refine ex_if_ne (t := 21) F dX7_isBadWater_8 (by decide) (fun c8 => ?_) (fun c8 => ?_)
  · refine ex_iconst (v := 1) F dX7_isBadWater_21 (by decide) ?_
    refine ex_goto (t := 26) F dX7_isBadWater_22 (by decide) ?_
    exact ex_zret (ty := .boolean) F R dX7_isBadWater_26 rfl (rfl) (⟨by simp [badWater, b2i_1.mp c8]; rfl, rfl⟩)
  · refine ex_iload_n F dX7_isBadWater_11 rfl rfl ?_
    refine ex_iconst (v := 0) F dX7_isBadWater_12 (by decide) ?_
    refine ex_bipush (v := 6) F dX7_isBadWater_13 (by decide) ?_
    refine ex_callSi F (c_X7_outside) dX7_isBadWater_15 cs_X7_isBadWater_85 rfl rfl (Nat.le_of_ble_eq_true rfl) (fun v15 M15 h15 => ?_)
    obtain ⟨rfl, q15⟩ := h15
    rw [q15]
    clear q15
    refine ex_if_eq (t := 25) F dX7_isBadWater_18 (by decide) (fun c18 => ?_) (fun c18 => ?_)
    · refine ex_iconst (v := 0) F dX7_isBadWater_25 (by decide) ?_
      exact ex_zret (ty := .boolean) F R dX7_isBadWater_26 rfl (rfl) (⟨by simp [badWater, b2i_0.mp c8, b2i_0.mp c18]; rfl, rfl⟩)
    · refine ex_iconst (v := 1) F dX7_isBadWater_21 (by decide) ?_
      refine ex_goto (t := 26) F dX7_isBadWater_22 (by decide) ?_
      exact ex_zret (ty := .boolean) F R dX7_isBadWater_26 rfl (rfl) (⟨by simp [badWater, b2i_0.mp c8, b2i_1.mp c18]; rfl, rfl⟩)
theorem cs_X7_isBadRod_85 : CSS (xmN YX7_isBadRod).cls (xmF YX7_isBadRod) (xmW YX7_isBadRod) 85 3 YX7_outside := ⟨⟨ml_X7_85, ini_X7, cd_X7_outside, by decide +kernel, by decide⟩, st_X7_outside⟩
set_option maxRecDepth 100000 in
theorem c_X7_isBadRod {l : Launch} {g : XG} {M : Mem} {a b c : Int32} : Call l g YX7_isBadRod [.int a, .int b, .int c] M (PI (fun v M' => v = b2i (badRod a b c) ∧ M' = M)) := by
  refine call_of (by decide +kernel) (Nat.le_of_ble_eq_true rfl) (fun x hxl F R => ?_)
  subst hxl
  refine ex_iload_n F dX7_isBadRod_0 rfl rfl ?_
  refine ex_iconst (v := 0) F dX7_isBadRod_1 (by decide) ?_
  refine ex_bipush (v := 9) F dX7_isBadRod_2 (by decide) ?_
  refine ex_callSi F (c_X7_outside) dX7_isBadRod_4 cs_X7_isBadRod_85 rfl rfl (Nat.le_of_ble_eq_true rfl) (fun v4 M4 h4 => ?_)
  obtain ⟨rfl, q4⟩ := h4
  rw [q4]
  clear q4
  refine ex_if_ne (t := 38) F dX7_isBadRod_7 (by decide) (fun c7 => ?_) (fun c7 => ?_)
  · refine ex_iconst (v := 1) F dX7_isBadRod_38 (by decide) ?_
    refine ex_goto (t := 43) F dX7_isBadRod_39 (by decide) ?_
    exact ex_zret (ty := .boolean) F R dX7_isBadRod_43 rfl (rfl) (⟨by simp [badRod, b2i_1.mp c7]; rfl, rfl⟩)
  · refine ex_iload_n F dX7_isBadRod_10 rfl rfl ?_
    refine ex_iconst (v := 0) F dX7_isBadRod_11 (by decide) ?_
    refine ex_bipush (v := 9) F dX7_isBadRod_12 (by decide) ?_
    refine ex_callSi F (c_X7_outside) dX7_isBadRod_14 cs_X7_isBadRod_85 rfl rfl (Nat.le_of_ble_eq_true rfl) (fun v14 M14 h14 => ?_)
    obtain ⟨rfl, q14⟩ := h14
    rw [q14]
    clear q14
    refine ex_if_ne (t := 38) F dX7_isBadRod_17 (by decide) (fun c17 => ?_) (fun c17 => ?_)
    · refine ex_iconst (v := 1) F dX7_isBadRod_38 (by decide) ?_
      refine ex_goto (t := 43) F dX7_isBadRod_39 (by decide) ?_
      exact ex_zret (ty := .boolean) F R dX7_isBadRod_43 rfl (rfl) (⟨by simp [badRod, b2i_0.mp c7, b2i_1.mp c17]; rfl, rfl⟩)
    · refine ex_iload_n F dX7_isBadRod_20 rfl rfl ?_
      refine ex_iconst (v := 0) F dX7_isBadRod_21 (by decide) ?_
      refine ex_bipush (v := 9) F dX7_isBadRod_22 (by decide) ?_
      refine ex_callSi F (c_X7_outside) dX7_isBadRod_24 cs_X7_isBadRod_85 rfl rfl (Nat.le_of_ble_eq_true rfl) (fun v24 M24 h24 => ?_)
      obtain ⟨rfl, q24⟩ := h24
      rw [q24]
      clear q24
      refine ex_if_ne (t := 38) F dX7_isBadRod_27 (by decide) (fun c27 => ?_) (fun c27 => ?_)
      · refine ex_iconst (v := 1) F dX7_isBadRod_38 (by decide) ?_
        refine ex_goto (t := 43) F dX7_isBadRod_39 (by decide) ?_
        exact ex_zret (ty := .boolean) F R dX7_isBadRod_43 rfl (rfl) (⟨by simp [badRod, b2i_0.mp c7, b2i_0.mp c17, b2i_1.mp c27]; rfl, rfl⟩)
      · refine ex_iload_n F dX7_isBadRod_30 rfl rfl ?_
        refine ex_iload_n F dX7_isBadRod_31 rfl rfl ?_
        refine ex_iadd F dX7_isBadRod_32 ?_
        refine ex_iload_n F dX7_isBadRod_33 rfl rfl ?_
        refine ex_iadd F dX7_isBadRod_34 ?_
        refine ex_if_ne (t := 42) F dX7_isBadRod_35 (by decide) (fun c35 => ?_) (fun c35 => ?_)
        · refine ex_iconst (v := 0) F dX7_isBadRod_42 (by decide) ?_
          exact ex_zret (ty := .boolean) F R dX7_isBadRod_43 rfl (rfl) (⟨by simp [badRod, b2i_0.mp c7, b2i_0.mp c17, b2i_0.mp c27, c35]; rfl, rfl⟩)
        · refine ex_iconst (v := 1) F dX7_isBadRod_38 (by decide) ?_
          refine ex_goto (t := 43) F dX7_isBadRod_39 (by decide) ?_
          exact ex_zret (ty := .boolean) F R dX7_isBadRod_43 rfl (rfl) (⟨by simp [badRod, b2i_0.mp c7, b2i_0.mp c17, b2i_0.mp c27, c35]; rfl, rfl⟩)
set_option maxRecDepth 100000 in
theorem c_X7_power {l : Launch} {g : XG} {M : Mem} {z : Int64} {n0 : Int32} {n : Nat} (hn : n0 = nI n) (hn2 : n < 2 ^ 31) : Call l g YX7_power [.long z, .int n0] M (PL (fun v M' => v = sPow z n ∧ M' = M)) := by
  refine call_of (by decide +kernel) (Nat.le_of_ble_eq_true rfl) (fun x hxl F R => ?_)
  subst hxl
  refine ex_lconst (v := 1) F dX7_power_0 (by decide) ?_
  refine ex_lstore_n F dX7_power_1 rfl (by decide) ?_
  refine ex_iconst (v := 0) F dX7_power_2 (by decide) ?_
  refine ex_istore F dX7_power_3 (by decide) ?_
  have key : ∀ (m i : Nat) (v : Int32) (q : Int64), i + m = n → v = nI i → q = sPow z i → EX x g (xmL YX7_power) M 5 [(0, .long z), (2, .int n0), (3, .long q), (5, .int v)] [] := by
    intro m
    induction m with
    | zero =>
      intro i v q hi hv hq
      obtain rfl : i = n := by omega
      subst hv
      refine ex_iload F dX7_power_5 rfl ?_
      refine ex_iload_n F dX7_power_7 rfl rfl ?_
      refine ex_icmp_ge (t := 21) F dX7_power_8 (by decide) (fun _ => ?_) (fun c => absurd (by rw [hn]; exact Int32.le_refl _) c)
      refine ex_lload_n F dX7_power_21 rfl rfl ?_
      exact ex_lret F R dX7_power_22 rfl (⟨hq, rfl⟩)
    | succ m ih =>
      intro i v q hi hv hq
      subst hv
      refine ex_iload F dX7_power_5 rfl ?_
      refine ex_iload_n F dX7_power_7 rfl rfl ?_
      refine ex_icmp_ge (t := 21) F dX7_power_8 (by decide) (fun c => absurd c (by rw [hn]; exact nI_ge (by omega) (by omega))) (fun _ => ?_)
      refine ex_lload_n F dX7_power_11 rfl rfl ?_
      refine ex_lload_n F dX7_power_12 rfl rfl ?_
      refine ex_lmul F dX7_power_13 ?_
      refine ex_lstore_n F dX7_power_14 rfl (by decide) ?_
      refine ex_iinc (w := _ + 1) F dX7_power_15 rfl rfl (by decide) ?_
      refine ex_goto (t := 5) F dX7_power_18 (by decide) ?_
      exact ex_weak2 (ih (i + 1) _ _ (by omega) (nI_1 i) (by rw [sPow, hq])) ⟨rfl, rfl, rfl, rfl, trivial⟩
  exact ex_weak2 (key n 0 _ _ (by omega) rfl rfl) ⟨rfl, rfl, rfl, rfl, trivial⟩
set_option maxRecDepth 100000 in
theorem c_X7_lowest {l : Launch} {g : XG} {M : Mem} {X Y : Nat} {wh : Int32} (lX : X < 2 ^ 63) (hY : 0 < Y) (lY : Y < 2 ^ 63) : Call l g YX7_lowest [.long (lN X), .long (lN Y), .int wh] M (PL (fun v M' => v = sLow X Y wh ∧ M' = M)) := by
  refine call_of (by decide +kernel) (Nat.le_of_ble_eq_true rfl) (fun x hxl F R => ?_)
  subst hxl
  refine ex_lload_n F dX7_lowest_0 rfl rfl ?_
  refine ex_lstore F dX7_lowest_1 (by decide) ?_
  refine ex_lload_n F dX7_lowest_3 rfl rfl ?_
  refine ex_lstore F dX7_lowest_4 (by decide) ?_
  refine ex_iconst (v := 0) F dX7_lowest_6 (by decide) ?_
  refine ex_istore F dX7_lowest_7 (by decide) ?_
  have fin : ∀ (A i : Nat), A = Nat.gcd X Y → EX x g (xmL YX7_lowest) M 45 [(0, .long (lN X)), (2, .long (lN Y)), (4, .int wh), (5, .long (lN A)), (7, .long 0), (9, .int (nI i))] [] := by
    intro A i hA
    have hA0 : 0 < A := by rw [hA]; exact Nat.gcd_pos_of_pos_right X hY
    have hAle : A ≤ Y := by rw [hA]; exact Nat.gcd_le_right X hY
    refine ex_iload F dX7_lowest_45 rfl ?_
    refine ex_if_ne (t := 54) F dX7_lowest_47 (by decide) (fun c47 => ?_) (fun c47 => ?_)
    · refine ex_lload_n F dX7_lowest_54 rfl rfl ?_
      refine ex_lstore F dX7_lowest_55 (by decide) ?_
      refine ex_lload F dX7_lowest_57 rfl ?_
      refine ex_lconst (v := 0) F dX7_lowest_59 (by decide) ?_
      refine ex_lcmp F dX7_lowest_60 ?_
      refine ex_if_le (t := 72) F dX7_lowest_61 (by decide) (fun c => absurd c (fun q => absurd (cmp_gt.mpr (show (0 : Int64) < lN A from (pk_lLT (a := 0) (by decide) (by omega)).mpr hA0)) (Int32.not_lt.mpr q))) (fun _ => ?_)
      refine ex_lload F dX7_lowest_64 rfl ?_
      refine ex_lload F dX7_lowest_66 rfl ?_
      refine ex_ldiv F dX7_lowest_68 (fun q => absurd ((pk_lEQ (b := 0) (by omega) (by decide)).mp q) (by omega)) ?_
      refine ex_goto (t := 74) F dX7_lowest_69 (by decide) ?_
      exact ex_lret F R dX7_lowest_74 rfl (⟨by rw [sLow, ← hA, if_neg c47, pk_lDiv (by omega) hA0 (by omega)], rfl⟩)
    · refine ex_lload_n F dX7_lowest_50 rfl rfl ?_
      refine ex_goto (t := 55) F dX7_lowest_51 (by decide) ?_
      refine ex_lstore F dX7_lowest_55 (by decide) ?_
      refine ex_lload F dX7_lowest_57 rfl ?_
      refine ex_lconst (v := 0) F dX7_lowest_59 (by decide) ?_
      refine ex_lcmp F dX7_lowest_60 ?_
      refine ex_if_le (t := 72) F dX7_lowest_61 (by decide) (fun c => absurd c (fun q => absurd (cmp_gt.mpr (show (0 : Int64) < lN A from (pk_lLT (a := 0) (by decide) (by omega)).mpr hA0)) (Int32.not_lt.mpr q))) (fun _ => ?_)
      refine ex_lload F dX7_lowest_64 rfl ?_
      refine ex_lload F dX7_lowest_66 rfl ?_
      refine ex_ldiv F dX7_lowest_68 (fun q => absurd ((pk_lEQ (b := 0) (by omega) (by decide)).mp q) (by omega)) ?_
      refine ex_goto (t := 74) F dX7_lowest_69 (by decide) ?_
      exact ex_lret F R dX7_lowest_74 rfl (⟨by rw [sLow, ← hA, if_pos c47, pk_lDiv (by omega) hA0 (by omega)], rfl⟩)
  have zero : ∀ (A i : Nat), A = Nat.gcd X Y → EX x g (xmL YX7_lowest) M 9 [(0, .long (lN X)), (2, .long (lN Y)), (4, .int wh), (5, .long (lN A)), (7, .long (lN 0)), (9, .int (nI i))] [] := by
    intro A i hA
    refine ex_iload F dX7_lowest_9 rfl ?_
    refine ex_sipush (v := 1000) F dX7_lowest_11 (by decide) ?_
    refine ex_icmp_ge (t := 45) F dX7_lowest_14 (by decide) (fun c14 => ?_) (fun c14 => ?_)
    · exact ex_weak2 (fin A i hA) ⟨rfl, rfl, rfl, rfl, rfl, rfl, trivial⟩
    · refine ex_lload F dX7_lowest_17 rfl ?_
      refine ex_lconst (v := 0) F dX7_lowest_19 (by decide) ?_
      refine ex_lcmp F dX7_lowest_20 ?_
      refine ex_if_eq (t := 45) F dX7_lowest_21 (by decide) (fun _ => ?_) (fun c => absurd (cmp_eq.mpr rfl) c)
      exact ex_weak2 (fin A i hA) ⟨rfl, rfl, rfl, rfl, rfl, rfl, trivial⟩
  have one : ∀ (A B i : Nat), i < 1000 → A < 2 ^ 63 → B < 2 ^ 63 → 0 < B → EX x g (xmL YX7_lowest) M 9 [(0, .long (lN X)), (2, .long (lN Y)), (4, .int wh), (5, .long (lN B)), (7, .long (lN (A % B))), (9, .int (nI (i + 1)))] [] → EX x g (xmL YX7_lowest) M 9 [(0, .long (lN X)), (2, .long (lN Y)), (4, .int wh), (5, .long (lN A)), (7, .long (lN B)), (9, .int (nI i))] [] := by
    intro A B i hi lA lB hB K
    have hB0 : ¬ lN B = 0 := fun q => absurd ((pk_lEQ (b := 0) lB (by decide)).mp q) (by omega)
    refine ex_iload F dX7_lowest_9 rfl ?_
    refine ex_sipush (v := 1000) F dX7_lowest_11 (by decide) ?_
    refine ex_icmp_ge (t := 45) F dX7_lowest_14 (by decide) (fun c => absurd c (nI_ge (b := 1000) (by omega) (by decide))) (fun _ => ?_)
    refine ex_lload F dX7_lowest_17 rfl ?_
    refine ex_lconst (v := 0) F dX7_lowest_19 (by decide) ?_
    refine ex_lcmp F dX7_lowest_20 ?_
    refine ex_if_eq (t := 45) F dX7_lowest_21 (by decide) (fun c => absurd c (fun q => hB0 (cmp_eq.mp q))) (fun _ => ?_)
    refine ex_lload F dX7_lowest_24 rfl ?_
    refine ex_lload F dX7_lowest_26 rfl ?_
    refine ex_lrem F dX7_lowest_28 hB0 ?_
    refine ex_lstore F dX7_lowest_29 (by decide) ?_
    refine ex_lload F dX7_lowest_31 rfl ?_
    refine ex_lstore F dX7_lowest_33 (by decide) ?_
    refine ex_lload F dX7_lowest_35 rfl ?_
    refine ex_lstore F dX7_lowest_37 (by decide) ?_
    refine ex_iinc (w := _ + 1) F dX7_lowest_39 rfl rfl (by decide) ?_
    refine ex_goto (t := 9) F dX7_lowest_42 (by decide) ?_
    rw [pk_lRem lA hB lB, nI_1]
    exact ex_weak2 K ⟨rfl, rfl, rfl, rfl, rfl, rfl, trivial⟩
  have key : ∀ (n A B i : Nat), B < 2 ^ n → i + 2 * n ≤ 1000 → A < 2 ^ 63 → B < 2 ^ 63 → Nat.gcd A B = Nat.gcd X Y → EX x g (xmL YX7_lowest) M 9 [(0, .long (lN X)), (2, .long (lN Y)), (4, .int wh), (5, .long (lN A)), (7, .long (lN B)), (9, .int (nI i))] [] := by
    intro n
    induction n with
    | zero =>
      intro A B i hB hi lA lB hg
      obtain rfl : B = 0 := by omega
      exact zero A i (by rw [← hg, Nat.gcd_zero_right])
    | succ n ih =>
      intro A B i hB hi lA lB hg
      by_cases hB0 : B = 0
      · subst hB0
        exact zero A i (by rw [← hg, Nat.gcd_zero_right])
      · have hB1 : 0 < B := Nat.pos_of_ne_zero hB0
        have hAB := Nat.mod_lt A hB1
        have hg2 : Nat.gcd B (A % B) = Nat.gcd X Y := by rw [← hg, Nat.gcd_comm A B, Nat.gcd_rec B A, Nat.gcd_comm]
        refine one A B i (by omega) lA lB hB1 ?_
        by_cases hC0 : A % B = 0
        · rw [hC0] at hg2 ⊢
          exact zero B (i + 1) (by rw [← hg2, Nat.gcd_zero_right])
        · have hC1 : 0 < A % B := Nat.pos_of_ne_zero hC0
          have hh := mod_half hC1 hAB
          have hp : 2 ^ (n + 1) = 2 * 2 ^ n := by rw [Nat.pow_succ]; omega
          have hg3 : Nat.gcd (A % B) (B % (A % B)) = Nat.gcd X Y := by rw [← hg2, Nat.gcd_comm B, Nat.gcd_rec (A % B) B, Nat.gcd_comm]
          refine one B (A % B) (i + 1) (by omega) lB (by omega) hC1 ?_
          exact ih (A % B) (B % (A % B)) (i + 1 + 1) (by omega) (by omega) (by omega) (by omega) hg3
  exact ex_weak2 (key 63 Y X 0 (by omega) (by decide) (by omega) (by omega) (Nat.gcd_comm Y X)) ⟨rfl, rfl, rfl, rfl, rfl, rfl, trivial⟩
set_option maxRecDepth 100000 in
theorem c_X7_chancesAbove {l : Launch} {g : XG} {M : Mem} {r a b c : Int32} : Call l g YX7_chancesAbove [.int r, .int a, .int b, .int c] M (PI (fun v M' => v = sAbove r a b c ∧ M' = M)) := by
  refine call_of (by decide +kernel) (Nat.le_of_ble_eq_true rfl) (fun x hxl F R => ?_)
  subst hxl
  refine ex_iload_n F dX7_chancesAbove_0 rfl rfl ?_
  refine ex_iconst (v := 1) F dX7_chancesAbove_1 (by decide) ?_
  refine ex_iadd F dX7_chancesAbove_2 ?_
  refine ex_bipush (v := 16) F dX7_chancesAbove_3 (by decide) ?_
  refine ex_icmp_le (t := 12) F dX7_chancesAbove_5 (by decide) (fun c5 => ?_) (fun c5 => ?_)
  · refine ex_iconst (v := 0) F dX7_chancesAbove_12 (by decide) ?_
    refine ex_iload_n F dX7_chancesAbove_13 rfl rfl ?_
    refine ex_bipush (v := 16) F dX7_chancesAbove_14 (by decide) ?_
    refine ex_icmp_le (t := 23) F dX7_chancesAbove_16 (by decide) (fun c16 => ?_) (fun c16 => ?_)
    · refine ex_iconst (v := 0) F dX7_chancesAbove_23 (by decide) ?_
      refine ex_iadd F dX7_chancesAbove_24 ?_
      refine ex_iload_n F dX7_chancesAbove_25 rfl rfl ?_
      refine ex_iconst (v := 1) F dX7_chancesAbove_26 (by decide) ?_
      refine ex_isub F dX7_chancesAbove_27 ?_
      refine ex_bipush (v := 16) F dX7_chancesAbove_28 (by decide) ?_
      refine ex_icmp_le (t := 37) F dX7_chancesAbove_30 (by decide) (fun c30 => ?_) (fun c30 => ?_)
      · refine ex_iconst (v := 0) F dX7_chancesAbove_37 (by decide) ?_
        refine ex_iadd F dX7_chancesAbove_38 ?_
        exact ex_iret F R dX7_chancesAbove_39 rfl (⟨by rw [sAbove, if_neg (Int32.not_lt.mpr c5), if_neg (Int32.not_lt.mpr c16), if_neg (Int32.not_lt.mpr c30)], rfl⟩)
      · refine ex_iload_n F dX7_chancesAbove_33 rfl rfl ?_
        refine ex_goto (t := 38) F dX7_chancesAbove_34 (by decide) ?_
        refine ex_iadd F dX7_chancesAbove_38 ?_
        exact ex_iret F R dX7_chancesAbove_39 rfl (⟨by rw [sAbove, if_neg (Int32.not_lt.mpr c5), if_neg (Int32.not_lt.mpr c16), if_pos (Int32.not_le.mp c30)], rfl⟩)
    · refine ex_iload_n F dX7_chancesAbove_19 rfl rfl ?_
      refine ex_goto (t := 24) F dX7_chancesAbove_20 (by decide) ?_
      refine ex_iadd F dX7_chancesAbove_24 ?_
      refine ex_iload_n F dX7_chancesAbove_25 rfl rfl ?_
      refine ex_iconst (v := 1) F dX7_chancesAbove_26 (by decide) ?_
      refine ex_isub F dX7_chancesAbove_27 ?_
      refine ex_bipush (v := 16) F dX7_chancesAbove_28 (by decide) ?_
      refine ex_icmp_le (t := 37) F dX7_chancesAbove_30 (by decide) (fun c30 => ?_) (fun c30 => ?_)
      · refine ex_iconst (v := 0) F dX7_chancesAbove_37 (by decide) ?_
        refine ex_iadd F dX7_chancesAbove_38 ?_
        exact ex_iret F R dX7_chancesAbove_39 rfl (⟨by rw [sAbove, if_neg (Int32.not_lt.mpr c5), if_pos (Int32.not_le.mp c16), if_neg (Int32.not_lt.mpr c30)], rfl⟩)
      · refine ex_iload_n F dX7_chancesAbove_33 rfl rfl ?_
        refine ex_goto (t := 38) F dX7_chancesAbove_34 (by decide) ?_
        refine ex_iadd F dX7_chancesAbove_38 ?_
        exact ex_iret F R dX7_chancesAbove_39 rfl (⟨by rw [sAbove, if_neg (Int32.not_lt.mpr c5), if_pos (Int32.not_le.mp c16), if_pos (Int32.not_le.mp c30)], rfl⟩)
  · refine ex_iload_n F dX7_chancesAbove_8 rfl rfl ?_
    refine ex_goto (t := 13) F dX7_chancesAbove_9 (by decide) ?_
    refine ex_iload_n F dX7_chancesAbove_13 rfl rfl ?_
    refine ex_bipush (v := 16) F dX7_chancesAbove_14 (by decide) ?_
    refine ex_icmp_le (t := 23) F dX7_chancesAbove_16 (by decide) (fun c16 => ?_) (fun c16 => ?_)
    · refine ex_iconst (v := 0) F dX7_chancesAbove_23 (by decide) ?_
      refine ex_iadd F dX7_chancesAbove_24 ?_
      refine ex_iload_n F dX7_chancesAbove_25 rfl rfl ?_
      refine ex_iconst (v := 1) F dX7_chancesAbove_26 (by decide) ?_
      refine ex_isub F dX7_chancesAbove_27 ?_
      refine ex_bipush (v := 16) F dX7_chancesAbove_28 (by decide) ?_
      refine ex_icmp_le (t := 37) F dX7_chancesAbove_30 (by decide) (fun c30 => ?_) (fun c30 => ?_)
      · refine ex_iconst (v := 0) F dX7_chancesAbove_37 (by decide) ?_
        refine ex_iadd F dX7_chancesAbove_38 ?_
        exact ex_iret F R dX7_chancesAbove_39 rfl (⟨by rw [sAbove, if_pos (Int32.not_le.mp c5), if_neg (Int32.not_lt.mpr c16), if_neg (Int32.not_lt.mpr c30)], rfl⟩)
      · refine ex_iload_n F dX7_chancesAbove_33 rfl rfl ?_
        refine ex_goto (t := 38) F dX7_chancesAbove_34 (by decide) ?_
        refine ex_iadd F dX7_chancesAbove_38 ?_
        exact ex_iret F R dX7_chancesAbove_39 rfl (⟨by rw [sAbove, if_pos (Int32.not_le.mp c5), if_neg (Int32.not_lt.mpr c16), if_pos (Int32.not_le.mp c30)], rfl⟩)
    · refine ex_iload_n F dX7_chancesAbove_19 rfl rfl ?_
      refine ex_goto (t := 24) F dX7_chancesAbove_20 (by decide) ?_
      refine ex_iadd F dX7_chancesAbove_24 ?_
      refine ex_iload_n F dX7_chancesAbove_25 rfl rfl ?_
      refine ex_iconst (v := 1) F dX7_chancesAbove_26 (by decide) ?_
      refine ex_isub F dX7_chancesAbove_27 ?_
      refine ex_bipush (v := 16) F dX7_chancesAbove_28 (by decide) ?_
      refine ex_icmp_le (t := 37) F dX7_chancesAbove_30 (by decide) (fun c30 => ?_) (fun c30 => ?_)
      · refine ex_iconst (v := 0) F dX7_chancesAbove_37 (by decide) ?_
        refine ex_iadd F dX7_chancesAbove_38 ?_
        exact ex_iret F R dX7_chancesAbove_39 rfl (⟨by rw [sAbove, if_pos (Int32.not_le.mp c5), if_pos (Int32.not_le.mp c16), if_neg (Int32.not_lt.mpr c30)], rfl⟩)
      · refine ex_iload_n F dX7_chancesAbove_33 rfl rfl ?_
        refine ex_goto (t := 38) F dX7_chancesAbove_34 (by decide) ?_
        refine ex_iadd F dX7_chancesAbove_38 ?_
        exact ex_iret F R dX7_chancesAbove_39 rfl (⟨by rw [sAbove, if_pos (Int32.not_le.mp c5), if_pos (Int32.not_le.mp c16), if_pos (Int32.not_le.mp c30)], rfl⟩)
theorem cs_X7_wash_203 : CSS (xmN YX7_wash).cls (xmF YX7_wash) (xmW YX7_wash) 203 2 YX7_isBadWash := ⟨⟨ml_X7_203, ini_X7, cd_X7_isBadWash, by decide +kernel, by decide⟩, st_X7_isBadWash⟩
theorem cs_X7_wash_85 : CSS (xmN YX7_wash).cls (xmF YX7_wash) (xmW YX7_wash) 85 3 YX7_outside := ⟨⟨ml_X7_85, ini_X7, cd_X7_outside, by decide +kernel, by decide⟩, st_X7_outside⟩
theorem cs_X7_wash_208 : CSS (xmN YX7_wash).cls (xmF YX7_wash) (xmW YX7_wash) 208 2 YX7_power := ⟨⟨ml_X7_208, ini_X7, cd_X7_power, by decide +kernel, by decide⟩, st_X7_power⟩
theorem cs_X7_wash_212 : CSS (xmN YX7_wash).cls (xmF YX7_wash) (xmW YX7_wash) 212 3 YX7_lowest := ⟨⟨ml_X7_212, ini_X7, cd_X7_lowest, by decide +kernel, by decide⟩, st_X7_lowest⟩
set_option maxRecDepth 100000 in
theorem c_X7_wash {l : Launch} {g : XG} {M : Mem} {m w0 k0 wh : Int32} : Call l g YX7_wash [.ref (ad g 0), .int m, .int w0, .int k0, .int wh] M (PL (fun v M' => v = (if (badWash m w0 || (outB k0 0 5 || outB wh 0 1)) = true then -1 else sLow (m.toNatClampNeg ^ (k0.toNatClampNeg + 1)) ((m.toNatClampNeg + w0.toNatClampNeg) ^ k0.toNatClampNeg) wh) ∧ M' = M)) := by
  refine call_of (by decide +kernel) (Nat.le_of_ble_eq_true rfl) (fun x hxl F R => ?_)
  subst hxl
  refine ex_iload_n F dX7_wash_0 rfl rfl ?_
  refine ex_iload_n F dX7_wash_1 rfl rfl ?_
  refine ex_callSi F (c_X7_isBadWash) dX7_wash_2 cs_X7_wash_203 rfl rfl (Nat.le_of_ble_eq_true rfl) (fun v2 M2 h2 => ?_)
  obtain ⟨rfl, q2⟩ := h2
  rw [q2]
  clear q2
  refine ex_if_ne (t := 27) F dX7_wash_5 (by decide) (fun c5 => ?_) (fun c5 => ?_)
  · refine ex_ldc2 F dX7_wash_27 kc_X7_206 ?_
    exact ex_lret F R dX7_wash_30 rfl (⟨by rw [if_pos (by simp [b2i_1.mp c5])], rfl⟩)
  · refine ex_iload_n F dX7_wash_8 rfl rfl ?_
    refine ex_iconst (v := 0) F dX7_wash_9 (by decide) ?_
    refine ex_iconst (v := 5) F dX7_wash_10 (by decide) ?_
    refine ex_callSi F (c_X7_outside) dX7_wash_11 cs_X7_wash_85 rfl rfl (Nat.le_of_ble_eq_true rfl) (fun v11 M11 h11 => ?_)
    obtain ⟨rfl, q11⟩ := h11
    rw [q11]
    clear q11
    refine ex_if_ne (t := 27) F dX7_wash_14 (by decide) (fun c14 => ?_) (fun c14 => ?_)
    · refine ex_ldc2 F dX7_wash_27 kc_X7_206 ?_
      exact ex_lret F R dX7_wash_30 rfl (⟨by rw [if_pos (by simp [b2i_0.mp c5, b2i_1.mp c14])], rfl⟩)
    · refine ex_iload F dX7_wash_17 rfl ?_
      refine ex_iconst (v := 0) F dX7_wash_19 (by decide) ?_
      refine ex_iconst (v := 1) F dX7_wash_20 (by decide) ?_
      refine ex_callSi F (c_X7_outside) dX7_wash_21 cs_X7_wash_85 rfl rfl (Nat.le_of_ble_eq_true rfl) (fun v21 M21 h21 => ?_)
      obtain ⟨rfl, q21⟩ := h21
      rw [q21]
      clear q21
      refine ex_if_eq (t := 31) F dX7_wash_24 (by decide) (fun c24 => ?_) (fun c24 => ?_)
      · have hw0 := b2i_0.mp c5
        simp only [badWash, Bool.or_eq_false_iff] at hw0
        obtain ⟨mm, m1, m2, em⟩ := outB_n (a := 1) (b := 99) (by decide) hw0.1 (by decide)
        obtain ⟨ww, -, w2, ew⟩ := outB_n (a := 0) (b := 99) (by decide) hw0.2 (by decide)
        obtain ⟨kk, -, k2, ek⟩ := outB_n (a := 0) (b := 5) (by decide) (b2i_0.mp c14) (by decide)
        have nm : m.toNatClampNeg = mm := by rw [em]; exact nI_clamp (by omega)
        have nw : w0.toNatClampNeg = ww := by rw [ew]; exact nI_clamp (by omega)
        have nk : k0.toNatClampNeg = kk := by rw [ek]; exact nI_clamp (by omega)
        have b1 : mm ^ (kk + 1) < 2 ^ 63 := Nat.lt_of_le_of_lt (Nat.le_trans (Nat.pow_le_pow_left m2 _) (Nat.pow_le_pow_right (by decide) (show kk + 1 ≤ 6 by omega))) (by decide)
        have b2 : (mm + ww) ^ kk < 2 ^ 63 := Nat.lt_of_le_of_lt (Nat.le_trans (Nat.pow_le_pow_left (show mm + ww ≤ 198 by omega) _) (Nat.pow_le_pow_right (by decide) k2)) (by decide)
        have b3 : 0 < (mm + ww) ^ kk := Nat.pow_pos (by omega)
        refine ex_iload_n F dX7_wash_31 rfl rfl ?_
        refine ex_i2l F dX7_wash_32 ?_
        refine ex_iload_n F dX7_wash_33 rfl rfl ?_
        refine ex_iconst (v := 1) F dX7_wash_34 (by decide) ?_
        refine ex_iadd F dX7_wash_35 ?_
        refine ex_callSl F (c_X7_power (n := kk + 1) (by rw [ek, nI_1]) (by omega)) dX7_wash_36 cs_X7_wash_208 rfl rfl (Nat.le_of_ble_eq_true rfl) (fun v36 M36 h36 => ?_)
        obtain ⟨e36, q36⟩ := h36
        rw [q36]
        clear q36
        rw [em, nI_l (by omega), sPow_n] at e36
        subst e36
        refine ex_iload_n F dX7_wash_39 rfl rfl ?_
        refine ex_iload_n F dX7_wash_40 rfl rfl ?_
        refine ex_iadd F dX7_wash_41 ?_
        refine ex_i2l F dX7_wash_42 ?_
        refine ex_iload_n F dX7_wash_43 rfl rfl ?_
        refine ex_callSl F (c_X7_power (n := kk) ek (by omega)) dX7_wash_44 cs_X7_wash_208 rfl rfl (Nat.le_of_ble_eq_true rfl) (fun v44 M44 h44 => ?_)
        obtain ⟨e44, q44⟩ := h44
        rw [q44]
        clear q44
        rw [em, ew, nI_add, nI_l (by omega), sPow_n] at e44
        subst e44
        refine ex_iload F dX7_wash_47 rfl ?_
        refine ex_callSl F (c_X7_lowest b1 b3 b2) dX7_wash_49 cs_X7_wash_212 rfl rfl (Nat.le_of_ble_eq_true rfl) (fun v49 M49 h49 => ?_)
        obtain ⟨rfl, q49⟩ := h49
        rw [q49]
        clear q49
        exact ex_lret F R dX7_wash_52 rfl (⟨by rw [if_neg (by simp [b2i_0.mp c5, b2i_0.mp c14, b2i_0.mp c24]), nm, nw, nk], rfl⟩)
      · refine ex_ldc2 F dX7_wash_27 kc_X7_206 ?_
        exact ex_lret F R dX7_wash_30 rfl (⟨by rw [if_pos (by simp [b2i_0.mp c5, b2i_0.mp c14, b2i_1.mp c24])], rfl⟩)
theorem cs_X7_washes_203 : CSS (xmN YX7_washes).cls (xmF YX7_washes) (xmW YX7_washes) 203 2 YX7_isBadWash := ⟨⟨ml_X7_203, ini_X7, cd_X7_isBadWash, by decide +kernel, by decide⟩, st_X7_isBadWash⟩
theorem cs_X7_washes_216 : CSS (xmN YX7_washes).cls (xmF YX7_washes) (xmW YX7_washes) 216 2 YX7_isBadShare := ⟨⟨ml_X7_216, ini_X7, cd_X7_isBadShare, by decide +kernel, by decide⟩, st_X7_isBadShare⟩
theorem cs_X7_washes_208 : CSS (xmN YX7_washes).cls (xmF YX7_washes) (xmW YX7_washes) 208 2 YX7_power := ⟨⟨ml_X7_208, ini_X7, cd_X7_power, by decide +kernel, by decide⟩, st_X7_power⟩
set_option maxRecDepth 100000 in
theorem c_X7_washes {l : Launch} {g : XG} {M : Mem} {m0 w0 a b : Int32} : Call l g YX7_washes [.ref (ad g 0), .int m0, .int w0, .int a, .int b] M (PI (fun v M' => v = (if (badWash m0 w0 || badShare a b) = true then -1 else sWashN m0 w0 a b 6 0) ∧ M' = M)) := by
  refine call_of (by decide +kernel) (Nat.le_of_ble_eq_true rfl) (fun x hxl F R => ?_)
  subst hxl
  refine ex_iload_n F dX7_washes_0 rfl rfl ?_
  refine ex_iload_n F dX7_washes_1 rfl rfl ?_
  refine ex_callSi F (c_X7_isBadWash) dX7_washes_2 cs_X7_washes_203 rfl rfl (Nat.le_of_ble_eq_true rfl) (fun v2 M2 h2 => ?_)
  obtain ⟨rfl, q2⟩ := h2
  rw [q2]
  clear q2
  refine ex_if_ne (t := 17) F dX7_washes_5 (by decide) (fun c5 => ?_) (fun c5 => ?_)
  · refine ex_iconst (v := -1) F dX7_washes_17 (by decide) ?_
    exact ex_iret F R dX7_washes_18 rfl (⟨by rw [if_pos (by simp [b2i_1.mp c5])], rfl⟩)
  · refine ex_iload_n F dX7_washes_8 rfl rfl ?_
    refine ex_iload F dX7_washes_9 rfl ?_
    refine ex_callSi F (c_X7_isBadShare) dX7_washes_11 cs_X7_washes_216 rfl rfl (Nat.le_of_ble_eq_true rfl) (fun v11 M11 h11 => ?_)
    obtain ⟨rfl, q11⟩ := h11
    rw [q11]
    clear q11
    refine ex_if_eq (t := 19) F dX7_washes_14 (by decide) (fun c14 => ?_) (fun c14 => ?_)
    · refine ex_iconst (v := 0) F dX7_washes_19 (by decide) ?_
      refine ex_istore F dX7_washes_20 (by decide) ?_
      have key : ∀ (m k : Nat) (v : Int32), k + m = 6 → v = nI k → sWashN m0 w0 a b m k = sWashN m0 w0 a b 6 0 → EX x g (xmL YX7_washes) M 22 [(0, .ref (ad g 0)), (1, .int m0), (2, .int w0), (3, .int a), (4, .int b), (5, .int v)] [] := by
        intro m
        induction m with
        | zero =>
          intro k v hi hv hs
          obtain rfl : k = 6 := by omega
          subst hv
          refine ex_iload F dX7_washes_22 rfl ?_
          refine ex_iconst (v := 5) F dX7_washes_24 (by decide) ?_
          refine ex_icmp_gt (t := 66) F dX7_washes_25 (by decide) (fun _ => ?_) (fun c => absurd (by decide) c)
          refine ex_bipush (v := -4) F dX7_washes_66 (by decide) ?_
          exact ex_iret F R dX7_washes_68 rfl (⟨by rw [if_neg (by simp [b2i_0.mp c5, b2i_0.mp c14]), ← hs, sWashN], rfl⟩)
        | succ m ih =>
          intro k v hi hv hs
          subst hv
          refine ex_iload F dX7_washes_22 rfl ?_
          refine ex_iconst (v := 5) F dX7_washes_24 (by decide) ?_
          refine ex_icmp_gt (t := 66) F dX7_washes_25 (by decide) (fun c => absurd c (nI_nlt (b := k) (a := 5) (by omega) (by decide))) (fun _ => ?_)
          refine ex_iload_n F dX7_washes_28 rfl rfl ?_
          refine ex_i2l F dX7_washes_29 ?_
          refine ex_iload F dX7_washes_30 rfl ?_
          refine ex_iconst (v := 1) F dX7_washes_32 (by decide) ?_
          refine ex_iadd F dX7_washes_33 ?_
          refine ex_callSl F (c_X7_power (n := k + 1) (nI_1 k) (by omega)) dX7_washes_34 cs_X7_washes_208 rfl rfl (Nat.le_of_ble_eq_true rfl) (fun v34 M34 h34 => ?_)
          obtain ⟨rfl, q34⟩ := h34
          rw [q34]
          clear q34
          refine ex_iload F dX7_washes_37 rfl ?_
          refine ex_i2l F dX7_washes_39 ?_
          refine ex_lmul F dX7_washes_40 ?_
          refine ex_iload_n F dX7_washes_41 rfl rfl ?_
          refine ex_i2l F dX7_washes_42 ?_
          refine ex_iload_n F dX7_washes_43 rfl rfl ?_
          refine ex_iload_n F dX7_washes_44 rfl rfl ?_
          refine ex_iadd F dX7_washes_45 ?_
          refine ex_i2l F dX7_washes_46 ?_
          refine ex_iload F dX7_washes_47 rfl ?_
          refine ex_callSl F (c_X7_power (n := k) rfl (by omega)) dX7_washes_49 cs_X7_washes_208 rfl rfl (Nat.le_of_ble_eq_true rfl) (fun v49 M49 h49 => ?_)
          obtain ⟨rfl, q49⟩ := h49
          rw [q49]
          clear q49
          refine ex_lmul F dX7_washes_52 ?_
          refine ex_lcmp F dX7_washes_53 ?_
          refine ex_if_gt (t := 60) F dX7_washes_54 (by decide) (fun c54 => ?_) (fun c54 => ?_)
          · refine ex_iinc (w := _ + 1) F dX7_washes_60 rfl rfl (by decide) ?_
            refine ex_goto (t := 22) F dX7_washes_63 (by decide) ?_
            refine ex_weak2 (ih (k + 1) _ (by omega) (nI_1 k) ?_) ⟨rfl, rfl, rfl, rfl, rfl, rfl, trivial⟩
            rw [← hs, sWashN, if_neg (fun q => absurd q (Int64.not_le.mpr (cmp_gt.mp c54)))]
          · refine ex_iload F dX7_washes_57 rfl ?_
            exact ex_iret F R dX7_washes_59 rfl (⟨by rw [if_neg (by simp [b2i_0.mp c5, b2i_0.mp c14]), ← hs, sWashN, if_pos (Int64.not_lt.mp (fun q => c54 (cmp_gt.mpr q)))], rfl⟩)
      exact ex_weak2 (key 6 0 _ (by omega) rfl rfl) ⟨rfl, rfl, rfl, rfl, rfl, rfl, trivial⟩
    · refine ex_iconst (v := -1) F dX7_washes_17 (by decide) ?_
      exact ex_iret F R dX7_washes_18 rfl (⟨by rw [if_pos (by simp [b2i_0.mp c5, b2i_1.mp c14])], rfl⟩)
theorem cs_X7_split_203 : CSS (xmN YX7_split).cls (xmF YX7_split) (xmW YX7_split) 203 2 YX7_isBadWash := ⟨⟨ml_X7_203, ini_X7, cd_X7_isBadWash, by decide +kernel, by decide⟩, st_X7_isBadWash⟩
set_option maxRecDepth 100000 in
theorem c_X7_split {l : Launch} {g : XG} {M : Mem} {m w0 : Int32} : Call l g YX7_split [.ref (ad g 0), .int m, .int w0] M (PI (fun v M' => v = (if badWash m w0 = true then -1 else sSpl m w0 w0.toNatClampNeg) ∧ M' = M)) := by
  refine call_of (by decide +kernel) (Nat.le_of_ble_eq_true rfl) (fun x hxl F R => ?_)
  subst hxl
  refine ex_iload_n F dX7_split_0 rfl rfl ?_
  refine ex_iload_n F dX7_split_1 rfl rfl ?_
  refine ex_callSi F (c_X7_isBadWash) dX7_split_2 cs_X7_split_203 rfl rfl (Nat.le_of_ble_eq_true rfl) (fun v2 M2 h2 => ?_)
  obtain ⟨rfl, q2⟩ := h2
  rw [q2]
  clear q2
  refine ex_if_eq (t := 10) F dX7_split_5 (by decide) (fun c5 => ?_) (fun c5 => ?_)
  · have hw0 := b2i_0.mp c5
    simp only [badWash, Bool.or_eq_false_iff] at hw0
    obtain ⟨mm, m1, m2, em⟩ := outB_n (a := 1) (b := 99) (by decide) hw0.1 (by decide)
    obtain ⟨ww, -, w2, ew⟩ := outB_n (a := 0) (b := 99) (by decide) hw0.2 (by decide)
    have nw : w0.toNatClampNeg = ww := by rw [ew]; exact nI_clamp (by omega)
    refine ex_iconst (v := 0) F dX7_split_10 (by decide) ?_
    refine ex_istore_n F dX7_split_11 rfl (by decide) ?_
    refine ex_iconst (v := 0) F dX7_split_12 (by decide) ?_
    refine ex_istore F dX7_split_13 (by decide) ?_
    refine ex_iconst (v := 0) F dX7_split_15 (by decide) ?_
    refine ex_istore F dX7_split_16 (by decide) ?_
    have pos : ∀ i : Nat, i ≤ ww → 0 < sPr m w0 (nI i) := by
      intro i hi
      have e : sPr m w0 (nI i) = nI ((mm + i) * (mm + ww - i)) := by
        rw [sPr, em, ew, nI_add, nI_add, pk_sub (by omega), pk_mul]
      have h1 : (mm + i) * (mm + ww - i) ≤ 198 * 198 := Nat.mul_le_mul (by omega) (by omega)
      have h2 : 0 < (mm + i) * (mm + ww - i) := Nat.mul_pos (by omega) (by omega)
      rw [e]
      exact nI_lt (a := 0) h2 (by omega)
    have key : ∀ (k i : Nat) (v : Int32), i + 1 + k = ww + 1 → v = nI (i + 1) → EX x g (xmL YX7_split) M 18 [(0, .ref (ad g 0)), (1, .int m), (2, .int w0), (3, .int (sSpl m w0 i)), (4, .int (sPr m w0 (sSpl m w0 i))), (5, .int v)] [] := by
      intro k
      induction k with
      | zero =>
        intro i v hi hv
        obtain rfl : i = ww := by omega
        subst hv
        refine ex_iload F dX7_split_18 rfl ?_
        refine ex_iload_n F dX7_split_20 rfl rfl ?_
        refine ex_icmp_gt (t := 57) F dX7_split_21 (by decide) (fun _ => ?_) (fun c => absurd (by rw [ew]; exact nI_lt (by omega) (by omega)) c)
        refine ex_iload_n F dX7_split_57 rfl rfl ?_
        exact ex_iret F R dX7_split_58 rfl (⟨by rw [if_neg (by rw [b2i_0.mp c5]; decide), nw], rfl⟩)
      | succ k ih =>
        intro i v hi hv
        subst hv
        refine ex_iload F dX7_split_18 rfl ?_
        refine ex_iload_n F dX7_split_20 rfl rfl ?_
        refine ex_icmp_gt (t := 57) F dX7_split_21 (by decide) (fun c => absurd c (by rw [ew]; exact nI_nlt (by omega) (by omega))) (fun _ => ?_)
        refine ex_iload_n F dX7_split_24 rfl rfl ?_
        refine ex_iload F dX7_split_25 rfl ?_
        refine ex_iadd F dX7_split_27 ?_
        refine ex_iload_n F dX7_split_28 rfl rfl ?_
        refine ex_iload_n F dX7_split_29 rfl rfl ?_
        refine ex_iadd F dX7_split_30 ?_
        refine ex_iload F dX7_split_31 rfl ?_
        refine ex_isub F dX7_split_33 ?_
        refine ex_imul F dX7_split_34 ?_
        refine ex_istore F dX7_split_35 (by decide) ?_
        refine ex_iload F dX7_split_37 rfl ?_
        refine ex_iload F dX7_split_39 rfl ?_
        refine ex_icmp_le (t := 51) F dX7_split_41 (by decide) (fun c41 => ?_) (fun c41 => ?_)
        · refine ex_iinc (w := _ + 1) F dX7_split_51 rfl rfl (by decide) ?_
          refine ex_goto (t := 18) F dX7_split_54 (by decide) ?_
          have en : sSpl m w0 (i + 1) = sSpl m w0 i := by rw [sSpl, if_neg (show ¬ sPr m w0 (sSpl m w0 i) < sPr m w0 (nI (i + 1)) from Int32.not_lt.mpr c41)]
          refine ex_weak2 (ih (i + 1) _ (by omega) (nI_1 (i + 1))) ⟨rfl, rfl, rfl, ?_, ?_, rfl, trivial⟩
          · rw [en]; rfl
          · rw [en]; rfl
        · refine ex_iload F dX7_split_44 rfl ?_
          refine ex_istore F dX7_split_46 (by decide) ?_
          refine ex_iload F dX7_split_48 rfl ?_
          refine ex_istore_n F dX7_split_50 rfl (by decide) ?_
          refine ex_iinc (w := _ + 1) F dX7_split_51 rfl rfl (by decide) ?_
          refine ex_goto (t := 18) F dX7_split_54 (by decide) ?_
          have en : sSpl m w0 (i + 1) = nI (i + 1) := by rw [sSpl, if_pos (show sPr m w0 (sSpl m w0 i) < sPr m w0 (nI (i + 1)) from Int32.not_le.mp c41)]
          refine ex_weak2 (ih (i + 1) _ (by omega) (nI_1 (i + 1))) ⟨rfl, rfl, rfl, ?_, ?_, rfl, trivial⟩
          · rw [en]; rfl
          · rw [en]; rfl
    refine ex_iload F dX7_split_18 rfl ?_
    refine ex_iload_n F dX7_split_20 rfl rfl ?_
    refine ex_icmp_gt (t := 57) F dX7_split_21 (by decide) (fun c => absurd c (by rw [ew]; exact nI_nlt (b := 0) (by omega) (by omega))) (fun _ => ?_)
    refine ex_iload_n F dX7_split_24 rfl rfl ?_
    refine ex_iload F dX7_split_25 rfl ?_
    refine ex_iadd F dX7_split_27 ?_
    refine ex_iload_n F dX7_split_28 rfl rfl ?_
    refine ex_iload_n F dX7_split_29 rfl rfl ?_
    refine ex_iadd F dX7_split_30 ?_
    refine ex_iload F dX7_split_31 rfl ?_
    refine ex_isub F dX7_split_33 ?_
    refine ex_imul F dX7_split_34 ?_
    refine ex_istore F dX7_split_35 (by decide) ?_
    refine ex_iload F dX7_split_37 rfl ?_
    refine ex_iload F dX7_split_39 rfl ?_
    refine ex_icmp_le (t := 51) F dX7_split_41 (by decide) (fun c => absurd c (Int32.not_le.mpr (show (0 : Int32) < sPr m w0 (nI 0) from pos 0 (by omega)))) (fun _ => ?_)
    refine ex_iload F dX7_split_44 rfl ?_
    refine ex_istore F dX7_split_46 (by decide) ?_
    refine ex_iload F dX7_split_48 rfl ?_
    refine ex_istore_n F dX7_split_50 rfl (by decide) ?_
    refine ex_iinc (w := _ + 1) F dX7_split_51 rfl rfl (by decide) ?_
    refine ex_goto (t := 18) F dX7_split_54 (by decide) ?_
    exact ex_weak2 (key ww 0 _ (by omega) rfl) ⟨rfl, rfl, rfl, rfl, rfl, rfl, trivial⟩
  · refine ex_iconst (v := -1) F dX7_split_8 (by decide) ?_
    exact ex_iret F R dX7_split_9 rfl (⟨by rw [if_pos (b2i_1.mp c5)], rfl⟩)
theorem cs_X7_near_226 : CSS (xmN YX7_near).cls (xmF YX7_near) (xmW YX7_near) 226 3 YX7_isBadRod := ⟨⟨ml_X7_226, ini_X7, cd_X7_isBadRod, by decide +kernel, by decide⟩, st_X7_isBadRod⟩
theorem cs_X7_near_216 : CSS (xmN YX7_near).cls (xmF YX7_near) (xmW YX7_near) 216 2 YX7_isBadShare := ⟨⟨ml_X7_216, ini_X7, cd_X7_isBadShare, by decide +kernel, by decide⟩, st_X7_isBadShare⟩
theorem cs_X7_near_229 : CSS (xmN YX7_near).cls (xmF YX7_near) (xmW YX7_near) 229 4 YX7_chancesAbove := ⟨⟨ml_X7_229, ini_X7, cd_X7_chancesAbove, by decide +kernel, by decide⟩, st_X7_chancesAbove⟩
set_option maxRecDepth 100000 in
theorem c_X7_near {l : Launch} {g : XG} {M : Mem} {a b c xx y : Int32} : Call l g YX7_near [.ref (ad g 0), .int a, .int b, .int c, .int xx, .int y] M (PI (fun v M' => v = (if (badRod a b c || badShare xx y) = true then -1 else sNear a b c xx y (-4) 31) ∧ M' = M)) := by
  refine call_of (by decide +kernel) (Nat.le_of_ble_eq_true rfl) (fun x hxl F R => ?_)
  subst hxl
  refine ex_iload_n F dX7_near_0 rfl rfl ?_
  refine ex_iload_n F dX7_near_1 rfl rfl ?_
  refine ex_iload_n F dX7_near_2 rfl rfl ?_
  refine ex_callSi F (c_X7_isBadRod) dX7_near_3 cs_X7_near_226 rfl rfl (Nat.le_of_ble_eq_true rfl) (fun v3 M3 h3 => ?_)
  obtain ⟨rfl, q3⟩ := h3
  rw [q3]
  clear q3
  refine ex_if_ne (t := 19) F dX7_near_6 (by decide) (fun c6 => ?_) (fun c6 => ?_)
  · refine ex_iconst (v := -1) F dX7_near_19 (by decide) ?_
    exact ex_iret F R dX7_near_20 rfl (⟨by rw [if_pos (by simp [b2i_1.mp c6])], rfl⟩)
  · refine ex_iload F dX7_near_9 rfl ?_
    refine ex_iload F dX7_near_11 rfl ?_
    refine ex_callSi F (c_X7_isBadShare) dX7_near_13 cs_X7_near_216 rfl rfl (Nat.le_of_ble_eq_true rfl) (fun v13 M13 h13 => ?_)
    obtain ⟨rfl, q13⟩ := h13
    rw [q13]
    clear q13
    refine ex_if_eq (t := 21) F dX7_near_16 (by decide) (fun c16 => ?_) (fun c16 => ?_)
    · refine ex_bipush (v := -4) F dX7_near_21 (by decide) ?_
      refine ex_istore F dX7_near_23 (by decide) ?_
      refine ex_iconst (v := 0) F dX7_near_25 (by decide) ?_
      refine ex_istore F dX7_near_26 (by decide) ?_
      have key : ∀ (k r : Nat) (v o : Int32), r + k = 31 → v = nI r → o = sNear a b c xx y (-4) r → EX x g (xmL YX7_near) M 28 [(0, .ref (ad g 0)), (1, .int a), (2, .int b), (3, .int c), (4, .int xx), (5, .int y), (6, .int o), (7, .int v)] [] := by
        intro k
        induction k with
        | zero =>
          intro r v o hi hv ho
          obtain rfl : r = 31 := by omega
          subst hv
          refine ex_iload F dX7_near_28 rfl ?_
          refine ex_bipush (v := 30) F dX7_near_30 (by decide) ?_
          refine ex_icmp_gt (t := 67) F dX7_near_32 (by decide) (fun _ => ?_) (fun c => absurd (by decide) c)
          refine ex_iload F dX7_near_67 rfl ?_
          exact ex_iret F R dX7_near_69 rfl (⟨by rw [if_neg (by simp [b2i_0.mp c6, b2i_0.mp c16])]; exact ho, rfl⟩)
        | succ k ih =>
          intro r v o hi hv ho
          subst hv
          refine ex_iload F dX7_near_28 rfl ?_
          refine ex_bipush (v := 30) F dX7_near_30 (by decide) ?_
          refine ex_icmp_gt (t := 67) F dX7_near_32 (by decide) (fun c => absurd c (nI_nlt (b := r) (a := 30) (by omega) (by decide))) (fun _ => ?_)
          refine ex_iload F dX7_near_35 rfl ?_
          refine ex_iload_n F dX7_near_37 rfl rfl ?_
          refine ex_iload_n F dX7_near_38 rfl rfl ?_
          refine ex_iload_n F dX7_near_39 rfl rfl ?_
          refine ex_callSi F (c_X7_chancesAbove) dX7_near_40 cs_X7_near_229 rfl rfl (Nat.le_of_ble_eq_true rfl) (fun v40 M40 h40 => ?_)
          obtain ⟨rfl, q40⟩ := h40
          rw [q40]
          clear q40
          refine ex_iload F dX7_near_43 rfl ?_
          refine ex_imul F dX7_near_45 ?_
          refine ex_iload F dX7_near_46 rfl ?_
          refine ex_iload_n F dX7_near_48 rfl rfl ?_
          refine ex_iload_n F dX7_near_49 rfl rfl ?_
          refine ex_iadd F dX7_near_50 ?_
          refine ex_iload_n F dX7_near_51 rfl rfl ?_
          refine ex_iadd F dX7_near_52 ?_
          refine ex_imul F dX7_near_53 ?_
          refine ex_icmp_gt (t := 61) F dX7_near_54 (by decide) (fun c54 => ?_) (fun c54 => ?_)
          · refine ex_iinc (w := _ + 1) F dX7_near_61 rfl rfl (by decide) ?_
            refine ex_goto (t := 28) F dX7_near_64 (by decide) ?_
            exact ex_weak2 (ih (r + 1) _ _ (by omega) (nI_1 r) (by rw [sNear, if_neg (Int32.not_le.mpr c54), ho])) ⟨rfl, rfl, rfl, rfl, rfl, rfl, rfl, rfl, trivial⟩
          · refine ex_iload F dX7_near_57 rfl ?_
            refine ex_istore F dX7_near_59 (by decide) ?_
            refine ex_iinc (w := _ + 1) F dX7_near_61 rfl rfl (by decide) ?_
            refine ex_goto (t := 28) F dX7_near_64 (by decide) ?_
            exact ex_weak2 (ih (r + 1) _ _ (by omega) (nI_1 r) (by rw [sNear, if_pos (Int32.not_lt.mp c54)])) ⟨rfl, rfl, rfl, rfl, rfl, rfl, rfl, rfl, trivial⟩
      exact ex_weak2 (key 31 0 _ _ (by omega) rfl rfl) ⟨rfl, rfl, rfl, rfl, rfl, rfl, rfl, rfl, trivial⟩
    · refine ex_iconst (v := -1) F dX7_near_19 (by decide) ?_
      exact ex_iret F R dX7_near_20 rfl (⟨by rw [if_pos (by simp [b2i_0.mp c6, b2i_1.mp c16])], rfl⟩)
theorem rod_n {a b c : Int32} (h : badRod a b c = false) : ∃ x y z, x ≤ 9 ∧ y ≤ 9 ∧ z ≤ 9 ∧ 0 < x + y + z ∧ a = nI x ∧ b = nI y ∧ c = nI z := by
  simp only [badRod, Bool.or_eq_false_iff, decide_eq_false_iff_not] at h
  obtain ⟨x, -, lx, ex⟩ := outB_n (a := 0) (b := 9) (by decide) h.1 (by decide)
  obtain ⟨y, -, ly, ey⟩ := outB_n (a := 0) (b := 9) (by decide) h.2.1 (by decide)
  obtain ⟨z, -, lz, ez⟩ := outB_n (a := 0) (b := 9) (by decide) h.2.2.1 (by decide)
  refine ⟨x, y, z, lx, ly, lz, ?_, ex, ey, ez⟩
  rcases Nat.eq_zero_or_pos (x + y + z) with q | q
  · exact absurd (by rw [ex, ey, ez, nI_add, nI_add, q]; rfl) h.2.2.2
  · exact q
theorem above_n {r a b c : Int32} {x y z : Nat} (ea : a = nI x) (eb : b = nI y) (ec : c = nI z) : ∃ n, n ≤ x + y + z ∧ sAbove r a b c = nI n := by
  unfold sAbove
  have h1 : ∀ (p : Prop) [Decidable p] (v : Int32) (n : Nat), v = nI n → ∃ k, k ≤ n ∧ (if p then v else 0) = nI k := by
    intro p _ v n hv
    by_cases hp : p
    · exact ⟨n, Nat.le_refl _, by rw [if_pos hp, hv]⟩
    · exact ⟨0, Nat.zero_le _, by rw [if_neg hp]; rfl⟩
  obtain ⟨k1, l1, e1⟩ := h1 (16 < r + 1) a x ea
  obtain ⟨k2, l2, e2⟩ := h1 (16 < r) b y eb
  obtain ⟨k3, l3, e3⟩ := h1 (16 < r - 1) c z ec
  exact ⟨k1 + k2 + k3, by omega, by rw [e1, e2, e3, nI_add, nI_add]⟩
theorem cs_X7_rod_85 : CSS (xmN YX7_rod).cls (xmF YX7_rod) (xmW YX7_rod) 85 3 YX7_outside := ⟨⟨ml_X7_85, ini_X7, cd_X7_outside, by decide +kernel, by decide⟩, st_X7_outside⟩
theorem cs_X7_rod_226 : CSS (xmN YX7_rod).cls (xmF YX7_rod) (xmW YX7_rod) 226 3 YX7_isBadRod := ⟨⟨ml_X7_226, ini_X7, cd_X7_isBadRod, by decide +kernel, by decide⟩, st_X7_isBadRod⟩
theorem cs_X7_rod_229 : CSS (xmN YX7_rod).cls (xmF YX7_rod) (xmW YX7_rod) 229 4 YX7_chancesAbove := ⟨⟨ml_X7_229, ini_X7, cd_X7_chancesAbove, by decide +kernel, by decide⟩, st_X7_chancesAbove⟩
theorem cs_X7_rod_212 : CSS (xmN YX7_rod).cls (xmF YX7_rod) (xmW YX7_rod) 212 3 YX7_lowest := ⟨⟨ml_X7_212, ini_X7, cd_X7_lowest, by decide +kernel, by decide⟩, st_X7_lowest⟩
set_option maxRecDepth 100000 in
theorem c_X7_rod {l : Launch} {g : XG} {M : Mem} {r a b c wh : Int32} : Call l g YX7_rod [.ref (ad g 0), .int r, .int a, .int b, .int c, .int wh] M (PI (fun v M' => v = (if (outB r 0 30 || (badRod a b c || outB wh 0 1)) = true then -1 else (sLow (sAbove r a b c).toNatClampNeg (a + b + c).toNatClampNeg wh).toInt32) ∧ M' = M)) := by
  refine call_of (by decide +kernel) (Nat.le_of_ble_eq_true rfl) (fun x hxl F R => ?_)
  subst hxl
  refine ex_iload_n F dX7_rod_0 rfl rfl ?_
  refine ex_iconst (v := 0) F dX7_rod_1 (by decide) ?_
  refine ex_bipush (v := 30) F dX7_rod_2 (by decide) ?_
  refine ex_callSi F (c_X7_outside) dX7_rod_4 cs_X7_rod_85 rfl rfl (Nat.le_of_ble_eq_true rfl) (fun v4 M4 h4 => ?_)
  obtain ⟨rfl, q4⟩ := h4
  rw [q4]
  clear q4
  refine ex_if_ne (t := 30) F dX7_rod_7 (by decide) (fun c7 => ?_) (fun c7 => ?_)
  · refine ex_iconst (v := -1) F dX7_rod_30 (by decide) ?_
    exact ex_iret F R dX7_rod_31 rfl (⟨by rw [if_pos (by simp [b2i_1.mp c7])], rfl⟩)
  · refine ex_iload_n F dX7_rod_10 rfl rfl ?_
    refine ex_iload_n F dX7_rod_11 rfl rfl ?_
    refine ex_iload F dX7_rod_12 rfl ?_
    refine ex_callSi F (c_X7_isBadRod) dX7_rod_14 cs_X7_rod_226 rfl rfl (Nat.le_of_ble_eq_true rfl) (fun v14 M14 h14 => ?_)
    obtain ⟨rfl, q14⟩ := h14
    rw [q14]
    clear q14
    refine ex_if_ne (t := 30) F dX7_rod_17 (by decide) (fun c17 => ?_) (fun c17 => ?_)
    · refine ex_iconst (v := -1) F dX7_rod_30 (by decide) ?_
      exact ex_iret F R dX7_rod_31 rfl (⟨by rw [if_pos (by simp [b2i_0.mp c7, b2i_1.mp c17])], rfl⟩)
    · refine ex_iload F dX7_rod_20 rfl ?_
      refine ex_iconst (v := 0) F dX7_rod_22 (by decide) ?_
      refine ex_iconst (v := 1) F dX7_rod_23 (by decide) ?_
      refine ex_callSi F (c_X7_outside) dX7_rod_24 cs_X7_rod_85 rfl rfl (Nat.le_of_ble_eq_true rfl) (fun v24 M24 h24 => ?_)
      obtain ⟨rfl, q24⟩ := h24
      rw [q24]
      clear q24
      refine ex_if_eq (t := 32) F dX7_rod_27 (by decide) (fun c27 => ?_) (fun c27 => ?_)
      · obtain ⟨xa, xb, xc, la, lb, lc, l0, ea, eb, ec⟩ := rod_n (b2i_0.mp c17)
        obtain ⟨ab, lab, eab⟩ := above_n (r := r) ea eb ec
        have es : a + b + c = nI (xa + xb + xc) := by rw [ea, eb, ec, nI_add, nI_add]
        have n1 : (sAbove r a b c).toNatClampNeg = ab := by rw [eab]; exact nI_clamp (by omega)
        have n2 : (a + b + c).toNatClampNeg = xa + xb + xc := by rw [es]; exact nI_clamp (by omega)
        refine ex_iload_n F dX7_rod_32 rfl rfl ?_
        refine ex_iload_n F dX7_rod_33 rfl rfl ?_
        refine ex_iload_n F dX7_rod_34 rfl rfl ?_
        refine ex_iload F dX7_rod_35 rfl ?_
        refine ex_callSi F (c_X7_chancesAbove) dX7_rod_37 cs_X7_rod_229 rfl rfl (Nat.le_of_ble_eq_true rfl) (fun v37 M37 h37 => ?_)
        obtain ⟨rfl, q37⟩ := h37
        rw [q37]
        clear q37
        refine ex_i2l F dX7_rod_40 ?_
        refine ex_iload_n F dX7_rod_41 rfl rfl ?_
        refine ex_iload_n F dX7_rod_42 rfl rfl ?_
        refine ex_iadd F dX7_rod_43 ?_
        refine ex_iload F dX7_rod_44 rfl ?_
        refine ex_iadd F dX7_rod_46 ?_
        refine ex_i2l F dX7_rod_47 ?_
        refine ex_iload F dX7_rod_48 rfl ?_
        rw [eab, es, nI_l (by omega), nI_l (by omega)]
        refine ex_callSl F (c_X7_lowest (X := ab) (Y := xa + xb + xc) (by omega) l0 (by omega)) dX7_rod_50 cs_X7_rod_212 rfl rfl (Nat.le_of_ble_eq_true rfl) (fun v50 M50 h50 => ?_)
        obtain ⟨rfl, q50⟩ := h50
        rw [q50]
        clear q50
        refine ex_l2i F dX7_rod_53 ?_
        exact ex_iret F R dX7_rod_54 rfl (⟨by rw [if_neg (by simp [b2i_0.mp c7, b2i_0.mp c17, b2i_0.mp c27]), n1, n2], rfl⟩)
      · refine ex_iconst (v := -1) F dX7_rod_30 (by decide) ?_
        exact ex_iret F R dX7_rod_31 rfl (⟨by rw [if_pos (by simp [b2i_0.mp c7, b2i_0.mp c17, b2i_1.mp c27])], rfl⟩)
end
section
def putW (M : Mem) (f : Nat → Int32) : Mem := fun q => if q = 37 then f else M q
theorem putW_mu (M : Mem) (j : Nat) (y : Int32) : mu M 37 j y = putW M (upd (M 37) j y) := by
  funext q
  by_cases h : q = 37
  · subst h; simp [mu, putW]
  · simp [mu, putW, h]
theorem putW_W (M : Mem) (f h : Nat → Int32) : putW (putW M f) h = putW M h := by
  funext q
  by_cases e : q = 37 <;> simp [putW, e]
theorem putW_rd (M : Mem) (f : Nat → Int32) : putW M f 37 = f := by simp [putW]
theorem putW_id (M : Mem) : putW M (M 37) = M := by
  funext q
  by_cases e : q = 37
  · subst e; simp [putW]
  · simp [putW, e]
theorem putW_jX {M : Mem} {f : Nat → Int32} (h : zC (cX M 16)) : jX M (putW M f) := by
  refine ⟨fun q _ _ _ h => by simp [putW, h], ?_⟩
  have : cX (putW M f) 16 = cX M 16 := by funext j; simp [cX, putW]
  rw [this]; exact h
def cut7 (s f : Nat → Int32) (n : Nat) : Nat → Int32 := fun j => if j < n then s j else f j
theorem cut7_S (s f : Nat → Int32) (n : Nat) : upd (cut7 s f n) n (s n) = cut7 s f (n + 1) := by
  funext j
  by_cases h : j = n
  · subst h; simp [upd, cut7]
  · by_cases h1 : j < n
    · simp [upd, cut7, h, h1, show j < n + 1 by omega]
    · simp [upd, cut7, h, h1, show ¬ j < n + 1 by omega]
-- a pass, step by step: what stands when 1 .. k - 1 have been done
def midP (s f : Nat → Int32) (k : Nat) : Nat → Int32 := fun j => if j < 7 then (if j + 1 < k then sPass s j else if j + 1 = k ∧ 1 ≤ j then 0 else s j) else f j
theorem midP_1 (s f : Nat → Int32) : midP s f 1 = cut7 s f 7 := by
  funext j
  by_cases h : j < 7
  · simp [midP, cut7, h, show ¬ j + 1 < 1 by omega]
    intro q1 q2; exfalso; omega
  · simp [midP, cut7, h]
theorem midP_7 (s f : Nat → Int32) : midP s f 7 = cut7 (sPass s) f 7 := by
  funext j
  by_cases h : j < 7
  · by_cases h6 : j = 6
    · subst h6; simp [midP, cut7, sPass]
    · simp [midP, cut7, h, show j + 1 < 7 by omega]
  · simp [midP, cut7, h]
theorem midP_S (s f : Nat → Int32) {k : Nat} (h1 : 1 ≤ k) (h7 : k < 7) : upd (upd (midP s f k) (k - 1) (midP s f k (k - 1) + 2 * midP s f k k)) k 0 = midP s f (k + 1) := by
  have e1 : midP s f k k = s k := by simp [midP, h7, show ¬ k + 1 < k by omega]
  rw [e1]
  funext j
  by_cases hk : j = k
  · subst hk
    rw [pk_us]
    simp [midP, h7, show ¬ j + 1 < j + 1 by omega, h1]
  · rw [pk_un hk]
    by_cases hk1 : j = k - 1
    · subst hk1
      rw [pk_us]
      by_cases h2 : k = 1
      · subst h2; simp [midP, sPass]
      · simp [midP, sPass, show k - 1 < 7 by omega, show k - 1 + 1 = k by omega, show ¬ k < k by omega, show 1 ≤ k - 1 by omega, show k < k + 1 by omega, show ¬ k - 1 = 0 by omega, show k - 1 < 6 by omega]
    · rw [pk_un hk1]
      by_cases h : j < 7
      · by_cases h3 : j + 1 < k
        · simp [midP, h, h3, show j + 1 < k + 1 by omega]
        · simp [midP, h, h3, show ¬ j + 1 < k + 1 by omega, show ¬ j + 1 = k by omega]
          intro q1 q2; exfalso; omega
      · simp [midP, h]
theorem fig_n (v : Nat) (hv : v < 2 ^ 31) : ∀ n, ∃ x, x < 2 ^ 31 ∧ figN (nI v) n = nI x := by
  intro n
  induction n with
  | zero => exact ⟨v, hv, rfl⟩
  | succ n ih =>
    obtain ⟨x, hx, e⟩ := ih
    exact ⟨x / 10, by omega, by rw [figN, e, show (10 : Int32) = nI 10 from rfl, pk_div hx (by decide) (by decide)]⟩
set_option maxRecDepth 100000 in
theorem c_X7_workWater {l : Launch} {g : XG} {M : Mem} {v0 p : Int32} {n : Nat} (hn : p = nI n) (ln : n ≤ 6) : Call l g YX7_workWater [.ref (ad g 0), .int v0, .int p] M (PV (fun M' => M' = putW M (cut7 (sWat v0 n) (M 37) 7))) := by
  refine call_of (by decide +kernel) (Nat.le_of_ble_eq_true rfl) (fun x hxl F R => ?_)
  subst hxl
  have pass : ∀ (m i : Nat) (v : Int32), i + m = n → v = nI i → EX x g (xmL YX7_workWater) (putW M (cut7 (sWat v0 i) (M 37) 7)) 40 [(0, .ref (ad g 0)), (1, .int v0), (2, .int p), (4, .int v)] [] := by
    intro m
    induction m with
    | zero =>
      intro i v hi hv
      obtain rfl : i = n := by omega
      subst hv
      refine ex_iload F dX7_workWater_40 rfl ?_
      refine ex_iload_n F dX7_workWater_42 rfl rfl ?_
      refine ex_icmp_ge (t := 100) F dX7_workWater_43 (by decide) (fun _ => ?_) (fun c => absurd (by rw [hn]; exact Int32.le_refl _) c)
      exact ex_vret F R dX7_workWater_100 rfl (rfl)
    | succ m ih =>
      intro i v hi hv
      subst hv
      have inner : ∀ (kk k : Nat) (u : Int32), 1 ≤ k → k + kk = 7 → u = nI k → EX x g (xmL YX7_workWater) (putW M (midP (sWat v0 i) (M 37) k)) 49 [(0, .ref (ad g 0)), (1, .int v0), (2, .int p), (4, .int (nI i)), (5, .int u)] [] := by
        intro kk
        induction kk with
        | zero =>
          intro k u hk1 hk hu
          obtain rfl : k = 7 := by omega
          subst hu
          refine ex_iload F dX7_workWater_49 rfl ?_
          refine ex_aload_n F dX7_workWater_51 rfl rfl ?_
          refine gf_7_9 F dX7_workWater_52 fl_X7_61 ?_
          refine ex_ilen (n := 7) (v := 7) F dX7_workWater_55 (by decide) (by decide) ?_
          refine ex_icmp_ge (t := 94) F dX7_workWater_56 (by decide) (fun _ => ?_) (fun c => absurd (by decide) c)
          refine ex_iinc (w := _ + 1) F dX7_workWater_94 rfl rfl (by decide) ?_
          refine ex_goto (t := 40) F dX7_workWater_97 (by decide) ?_
          refine ex_M (M1 := putW M (cut7 (sWat v0 (i + 1)) (M 37) 7)) ?_ (ex_weak2 (ih (i + 1) _ (by omega) (nI_1 i)) ⟨rfl, rfl, rfl, rfl, trivial⟩)
          rw [midP_7]; rfl
        | succ kk ih2 =>
          intro k u hk1 hk hu
          subst hu
          refine ex_iload F dX7_workWater_49 rfl ?_
          refine ex_aload_n F dX7_workWater_51 rfl rfl ?_
          refine gf_7_9 F dX7_workWater_52 fl_X7_61 ?_
          refine ex_ilen (n := 7) (v := 7) F dX7_workWater_55 (by decide) (by decide) ?_
          refine ex_icmp_ge (t := 94) F dX7_workWater_56 (by decide) (fun c => absurd c (nI_ge (b := 7) (by omega) (by decide))) (fun _ => ?_)
          refine ex_aload_n F dX7_workWater_59 rfl rfl ?_
          refine gf_7_9 F dX7_workWater_60 fl_X7_61 ?_
          refine ex_iload F dX7_workWater_63 rfl ?_
          refine ex_iconst (v := 1) F dX7_workWater_65 (by decide) ?_
          refine ex_isub F dX7_workWater_66 ?_
          refine ex_dup2 F dX7_workWater_67 rfl rfl ?_
          refine ex_iald (n := 7) F dX7_workWater_68 (by decide) (by rw [show nI k - 1 = nI (k - 1) from pk_sub (b := 1) hk1]; exact vp_in_nI (by omega) (by decide)) (j := k - 1) (by rw [show nI k - 1 = nI (k - 1) from pk_sub (b := 1) hk1]; exact nI_clamp (by omega)) ?_
          refine ex_iconst (v := 2) F dX7_workWater_69 (by decide) ?_
          refine ex_aload_n F dX7_workWater_70 rfl rfl ?_
          refine gf_7_9 F dX7_workWater_71 fl_X7_61 ?_
          refine ex_iload F dX7_workWater_74 rfl ?_
          refine ex_iald (n := 7) F dX7_workWater_76 (by decide) (vp_in_nI (by omega) (by decide)) (j := k) (nI_clamp (by omega)) ?_
          refine ex_imul F dX7_workWater_77 ?_
          refine ex_iadd F dX7_workWater_78 ?_
          refine ex_iast (n := 7) F dX7_workWater_79 (by decide) (by rw [show nI k - 1 = nI (k - 1) from pk_sub (b := 1) hk1]; exact vp_in_nI (by omega) (by decide)) (j := k - 1) (by rw [show nI k - 1 = nI (k - 1) from pk_sub (b := 1) hk1]; exact nI_clamp (by omega)) ?_
          refine ex_aload_n F dX7_workWater_80 rfl rfl ?_
          refine gf_7_9 F dX7_workWater_81 fl_X7_61 ?_
          refine ex_iload F dX7_workWater_84 rfl ?_
          refine ex_iconst (v := 0) F dX7_workWater_86 (by decide) ?_
          refine ex_iast (n := 7) F dX7_workWater_87 (by decide) (vp_in_nI (by omega) (by decide)) (j := k) (nI_clamp (by omega)) ?_
          refine ex_iinc (w := _ + 1) F dX7_workWater_88 rfl rfl (by decide) ?_
          refine ex_goto (t := 49) F dX7_workWater_91 (by decide) ?_
          refine ex_M (M1 := putW M (midP (sWat v0 i) (M 37) (k + 1))) ?_ (ex_weak2 (ih2 (k + 1) _ (by omega) (by omega) (nI_1 k)) ⟨rfl, rfl, rfl, rfl, rfl, trivial⟩)
          rw [putW_mu, putW_mu, putW_W, putW_W, putW_rd, putW_rd, midP_S _ _ hk1 (by omega)]
      refine ex_iload F dX7_workWater_40 rfl ?_
      refine ex_iload_n F dX7_workWater_42 rfl rfl ?_
      refine ex_icmp_ge (t := 100) F dX7_workWater_43 (by decide) (fun c => absurd c (by rw [hn]; exact nI_ge (by omega) (by omega))) (fun _ => ?_)
      refine ex_iconst (v := 1) F dX7_workWater_46 (by decide) ?_
      refine ex_istore F dX7_workWater_47 (by decide) ?_
      refine ex_M (M1 := putW M (midP (sWat v0 i) (M 37) 1)) ?_ (ex_weak2 (inner 6 1 _ (by omega) (by omega) rfl) ⟨rfl, rfl, rfl, rfl, rfl, trivial⟩)
      rw [midP_1]
  refine ex_iload_n F dX7_workWater_0 rfl rfl ?_
  refine ex_istore_n F dX7_workWater_1 rfl (by decide) ?_
  refine ex_iconst (v := 0) F dX7_workWater_2 (by decide) ?_
  refine ex_istore F dX7_workWater_3 (by decide) ?_
  have key : ∀ (m i : Nat) (v : Int32), i + m = 7 → v = nI i → EX x g (xmL YX7_workWater) (putW M (cut7 (sDig v0) (M 37) i)) 5 [(0, .ref (ad g 0)), (1, .int v0), (2, .int p), (3, .int (figN v0 i)), (4, .int v)] [] := by
    intro m
    induction m with
    | zero =>
      intro i v hi hv
      obtain rfl : i = 7 := by omega
      subst hv
      refine ex_iload F dX7_workWater_5 rfl ?_
      refine ex_aload_n F dX7_workWater_7 rfl rfl ?_
      refine gf_7_9 F dX7_workWater_8 fl_X7_61 ?_
      refine ex_ilen (n := 7) (v := 7) F dX7_workWater_11 (by decide) (by decide) ?_
      refine ex_icmp_ge (t := 37) F dX7_workWater_12 (by decide) (fun _ => ?_) (fun c => absurd (by decide) c)
      refine ex_iconst (v := 0) F dX7_workWater_37 (by decide) ?_
      refine ex_istore F dX7_workWater_38 (by decide) ?_
      exact ex_weak2 (pass n 0 _ (by omega) rfl) ⟨rfl, rfl, rfl, rfl, trivial⟩
    | succ m ih =>
      intro i v hi hv
      subst hv
      refine ex_iload F dX7_workWater_5 rfl ?_
      refine ex_aload_n F dX7_workWater_7 rfl rfl ?_
      refine gf_7_9 F dX7_workWater_8 fl_X7_61 ?_
      refine ex_ilen (n := 7) (v := 7) F dX7_workWater_11 (by decide) (by decide) ?_
      refine ex_icmp_ge (t := 37) F dX7_workWater_12 (by decide) (fun c => absurd c (nI_ge (b := 7) (by omega) (by decide))) (fun _ => ?_)
      refine ex_aload_n F dX7_workWater_15 rfl rfl ?_
      refine gf_7_9 F dX7_workWater_16 fl_X7_61 ?_
      refine ex_iload F dX7_workWater_19 rfl ?_
      refine ex_iload_n F dX7_workWater_21 rfl rfl ?_
      refine ex_bipush (v := 10) F dX7_workWater_22 (by decide) ?_
      refine ex_irem F dX7_workWater_24 (by decide) ?_
      refine ex_iast (n := 7) F dX7_workWater_25 (by decide) (vp_in_nI (by omega) (by decide)) (j := i) (nI_clamp (by omega)) ?_
      refine ex_iload_n F dX7_workWater_26 rfl rfl ?_
      refine ex_bipush (v := 10) F dX7_workWater_27 (by decide) ?_
      refine ex_idiv F dX7_workWater_29 (by decide) ?_
      refine ex_istore_n F dX7_workWater_30 rfl (by decide) ?_
      refine ex_iinc (w := _ + 1) F dX7_workWater_31 rfl rfl (by decide) ?_
      refine ex_goto (t := 5) F dX7_workWater_34 (by decide) ?_
      refine ex_M (M1 := putW M (cut7 (sDig v0) (M 37) (i + 1))) ?_ (ex_weak2 (ih (i + 1) _ (by omega) (nI_1 i)) ⟨rfl, rfl, rfl, rfl, rfl, trivial⟩)
      rw [putW_mu, putW_W, putW_rd, ← cut7_S]
      rfl
  refine ex_M (M1 := putW M (cut7 (sDig v0) (M 37) 0)) ?_ (ex_weak2 (key 7 0 _ (by omega) rfl) ⟨rfl, rfl, rfl, rfl, rfl, trivial⟩)
  have e : cut7 (sDig v0) (M 37) 0 = M 37 := by funext j; simp [cut7]
  rw [e, putW_id]
theorem lt_7 {k : Int32} (q : 6 < k) : 7 ≤ k := by
  have q1 := Int32.lt_iff_toInt_lt.mp q
  have q3 : (6 : Int32).toInt = 6 := by decide
  have q4 : (7 : Int32).toInt = 7 := by decide
  exact Int32.le_iff_toInt_le.mpr (by omega)
theorem cs_X7_worked_219 : CSS (xmN YX7_worked).cls (xmF YX7_worked) (xmW YX7_worked) 219 2 YX7_isBadWater := ⟨⟨ml_X7_219, ini_X7, cd_X7_isBadWater, by decide +kernel, by decide⟩, st_X7_isBadWater⟩
theorem cs_X7_worked_222 : CSV (xmN YX7_worked).cls (xmF YX7_worked) (xmW YX7_worked) 222 2 YX7_workWater := ⟨⟨ml_X7_222, ini_X7, cd_X7_workWater, by decide +kernel, by decide⟩, im_X7_workWater, se_X7_workWater⟩
set_option maxRecDepth 100000 in
theorem c_X7_worked {l : Launch} {g : XG} {M : Mem} {v0 p k0 : Int32} (h16 : zC (cX M 16)) : Call l g YX7_worked [.ref (ad g 0), .int v0, .int p, .int k0] M (PI (fun v M' => v = (if (badWater v0 p || outB k0 0 6) = true then -1 else sWat v0 p.toNatClampNeg k0.toNatClampNeg) ∧ jX M M')) := by
  refine call_of (by decide +kernel) (Nat.le_of_ble_eq_true rfl) (fun x hxl F R => ?_)
  subst hxl
  refine ex_iload_n F dX7_worked_0 rfl rfl ?_
  refine ex_iload_n F dX7_worked_1 rfl rfl ?_
  refine ex_callSi F (c_X7_isBadWater) dX7_worked_2 cs_X7_worked_219 rfl rfl (Nat.le_of_ble_eq_true rfl) (fun v2 M2 h2 => ?_)
  obtain ⟨rfl, q2⟩ := h2
  rw [q2]
  clear q2
  refine ex_if_ne (t := 21) F dX7_worked_5 (by decide) (fun c5 => ?_) (fun c5 => ?_)
  · refine ex_iconst (v := -1) F dX7_worked_21 (by decide) ?_
    exact ex_iret F R dX7_worked_22 rfl (⟨by rw [if_pos (by simp [b2i_1.mp c5])], jX_rf h16⟩)
  · refine ex_iload_n F dX7_worked_8 rfl rfl ?_
    refine ex_if_lt (t := 21) F dX7_worked_9 (by decide) (fun c9 => ?_) (fun c9 => ?_)
    · refine ex_iconst (v := -1) F dX7_worked_21 (by decide) ?_
      exact ex_iret F R dX7_worked_22 rfl (⟨by rw [if_pos (by simp [outB, c9])], jX_rf h16⟩)
    · refine ex_iload_n F dX7_worked_12 rfl rfl ?_
      refine ex_aload_n F dX7_worked_13 rfl rfl ?_
      refine gf_7_9 F dX7_worked_14 fl_X7_61 ?_
      refine ex_ilen (n := 7) (v := 7) F dX7_worked_17 (by decide) (by decide) ?_
      refine ex_icmp_lt (t := 23) F dX7_worked_18 (by decide) (fun c18 => ?_) (fun c18 => ?_)
      · have hw0 := b2i_0.mp c5
        simp only [badWater, Bool.or_eq_false_iff] at hw0
        obtain ⟨n, -, ln, hn⟩ := outB_n (a := 0) (b := 6) (by decide) hw0.2 (by decide)
        have nn : p.toNatClampNeg = n := by rw [hn]; exact nI_clamp (by omega)
        have hk : vp_in k0 7 := vp_in_iff.mpr (by have q1 := Int32.le_iff_toInt_le.mp (Int32.not_lt.mp c9); have q2 := Int32.lt_iff_toInt_lt.mp c18; have q3 : (0 : Int32).toInt = 0 := (by decide); have q4 : (7 : Int32).toInt = 7 := (by decide); omega)
        refine ex_aload_n F dX7_worked_23 rfl rfl ?_
        refine ex_iload_n F dX7_worked_24 rfl rfl ?_
        refine ex_iload_n F dX7_worked_25 rfl rfl ?_
        refine ex_callVv F (c_X7_workWater hn ln) dX7_worked_26 cs_X7_worked_222 ob_7 rfl rfl rfl rfl (Nat.le_of_ble_eq_true rfl) (fun M26 h26 => ?_)
        rw [h26]
        refine ex_aload_n F dX7_worked_29 rfl rfl ?_
        refine gf_7_9 F dX7_worked_30 fl_X7_61 ?_
        refine ex_iload_n F dX7_worked_33 rfl rfl ?_
        refine ex_iald (n := 7) F dX7_worked_34 (by decide) hk rfl ?_
        exact ex_iret F R dX7_worked_35 rfl (⟨by rw [if_neg (by simp only [b2i_0.mp c5, outB, Bool.false_or, Bool.or_eq_true, decide_eq_true_eq]; exact fun q => q.elim c9 (fun q => absurd c18 (Int32.not_lt.mpr (lt_7 q)))), putW_rd, nn, cut7, if_pos (Nat.not_le.mp fun q => hk (Or.inr q))], putW_jX h16⟩)
      · refine ex_iconst (v := -1) F dX7_worked_21 (by decide) ?_
        exact ex_iret F R dX7_worked_22 rfl (⟨by rw [if_pos (by simp only [outB, Bool.or_eq_true, decide_eq_true_eq]; exact Or.inr (Or.inr (Int32.lt_of_lt_of_le (by decide) (Int32.not_lt.mp c18))))], jX_rf h16⟩)
theorem cs_X7_keeps_219 : CSS (xmN YX7_keeps).cls (xmF YX7_keeps) (xmW YX7_keeps) 219 2 YX7_isBadWater := ⟨⟨ml_X7_219, ini_X7, cd_X7_isBadWater, by decide +kernel, by decide⟩, st_X7_isBadWater⟩
theorem cs_X7_keeps_222 : CSV (xmN YX7_keeps).cls (xmF YX7_keeps) (xmW YX7_keeps) 222 2 YX7_workWater := ⟨⟨ml_X7_222, ini_X7, cd_X7_workWater, by decide +kernel, by decide⟩, im_X7_workWater, se_X7_workWater⟩
set_option maxRecDepth 100000 in
theorem c_X7_keeps {l : Launch} {g : XG} {M : Mem} {v0 p : Int32} (h16 : zC (cX M 16)) : Call l g YX7_keeps [.ref (ad g 0), .int v0, .int p] M (PI (fun v M' => v = (if badWater v0 p = true then -1 else (64 : Int32) >>> (sGreat (sWat v0 p.toNatClampNeg) 7 &&& 31)) ∧ jX M M')) := by
  refine call_of (by decide +kernel) (Nat.le_of_ble_eq_true rfl) (fun x hxl F R => ?_)
  subst hxl
  refine ex_iload_n F dX7_keeps_0 rfl rfl ?_
  refine ex_iload_n F dX7_keeps_1 rfl rfl ?_
  refine ex_callSi F (c_X7_isBadWater) dX7_keeps_2 cs_X7_keeps_219 rfl rfl (Nat.le_of_ble_eq_true rfl) (fun v2 M2 h2 => ?_)
  obtain ⟨rfl, q2⟩ := h2
  rw [q2]
  clear q2
  refine ex_if_eq (t := 10) F dX7_keeps_5 (by decide) (fun c5 => ?_) (fun c5 => ?_)
  · have hw0 := b2i_0.mp c5
    simp only [badWater, Bool.or_eq_false_iff] at hw0
    obtain ⟨n, -, ln, hn⟩ := outB_n (a := 0) (b := 6) (by decide) hw0.2 (by decide)
    have nn : p.toNatClampNeg = n := by rw [hn]; exact nI_clamp (by omega)
    refine ex_aload_n F dX7_keeps_10 rfl rfl ?_
    refine ex_iload_n F dX7_keeps_11 rfl rfl ?_
    refine ex_iload_n F dX7_keeps_12 rfl rfl ?_
    refine ex_callVv F (c_X7_workWater hn ln) dX7_keeps_13 cs_X7_keeps_222 ob_7 rfl rfl rfl rfl (Nat.le_of_ble_eq_true rfl) (fun M13 h13 => ?_)
    rw [h13]
    refine ex_iconst (v := 0) F dX7_keeps_16 (by decide) ?_
    refine ex_istore_n F dX7_keeps_17 rfl (by decide) ?_
    refine ex_iconst (v := 0) F dX7_keeps_18 (by decide) ?_
    refine ex_istore F dX7_keeps_19 (by decide) ?_
    have key : ∀ (m i : Nat) (v o : Int32), i + m = 7 → v = nI i → o = sGreat (sWat v0 n) i → EX x g (xmL YX7_keeps) (putW M (cut7 (sWat v0 n) (M 37) 7)) 21 [(0, .ref (ad g 0)), (1, .int v0), (2, .int p), (3, .int o), (4, .int v)] [] := by
      intro m
      induction m with
      | zero =>
        intro i v o hi hv ho
        obtain rfl : i = 7 := by omega
        subst hv
        refine ex_iload F dX7_keeps_21 rfl ?_
        refine ex_aload_n F dX7_keeps_23 rfl rfl ?_
        refine gf_7_9 F dX7_keeps_24 fl_X7_61 ?_
        refine ex_ilen (n := 7) (v := 7) F dX7_keeps_27 (by decide) (by decide) ?_
        refine ex_icmp_ge (t := 50) F dX7_keeps_28 (by decide) (fun _ => ?_) (fun c => absurd (by decide) c)
        refine ex_bipush (v := 64) F dX7_keeps_50 (by decide) ?_
        refine ex_iload_n F dX7_keeps_52 rfl rfl ?_
        refine ex_ishr F dX7_keeps_53 ?_
        exact ex_iret F R dX7_keeps_54 rfl (⟨by rw [if_neg (by rw [b2i_0.mp c5]; decide), nn, ← ho], putW_jX h16⟩)
      | succ m ih =>
        intro i v o hi hv ho
        subst hv
        refine ex_iload F dX7_keeps_21 rfl ?_
        refine ex_aload_n F dX7_keeps_23 rfl rfl ?_
        refine gf_7_9 F dX7_keeps_24 fl_X7_61 ?_
        refine ex_ilen (n := 7) (v := 7) F dX7_keeps_27 (by decide) (by decide) ?_
        refine ex_icmp_ge (t := 50) F dX7_keeps_28 (by decide) (fun c => absurd c (nI_ge (b := 7) (by omega) (by decide))) (fun _ => ?_)
        refine ex_aload_n F dX7_keeps_31 rfl rfl ?_
        refine gf_7_9 F dX7_keeps_32 fl_X7_61 ?_
        refine ex_iload F dX7_keeps_35 rfl ?_
        refine ex_iald (n := 7) F dX7_keeps_37 (by decide) (vp_in_nI (by omega) (by decide)) (j := i) (nI_clamp (by omega)) ?_
        refine ex_if_le (t := 44) F dX7_keeps_38 (by decide) (fun c38 => ?_) (fun c38 => ?_)
        · refine ex_iinc (w := _ + 1) F dX7_keeps_44 rfl rfl (by decide) ?_
          refine ex_goto (t := 21) F dX7_keeps_47 (by decide) ?_
          have e : putW M (cut7 (sWat v0 n) (M 37) 7) 37 i = sWat v0 n i := by rw [putW_rd, cut7, if_pos (by omega)]
          rw [e] at c38
          exact ex_weak2 (ih (i + 1) _ _ (by omega) (nI_1 i) (by rw [sGreat, if_neg (Int32.not_lt.mpr c38), ho])) ⟨rfl, rfl, rfl, rfl, rfl, trivial⟩
        · refine ex_iload F dX7_keeps_41 rfl ?_
          refine ex_istore_n F dX7_keeps_43 rfl (by decide) ?_
          refine ex_iinc (w := _ + 1) F dX7_keeps_44 rfl rfl (by decide) ?_
          refine ex_goto (t := 21) F dX7_keeps_47 (by decide) ?_
          have e : putW M (cut7 (sWat v0 n) (M 37) 7) 37 i = sWat v0 n i := by rw [putW_rd, cut7, if_pos (by omega)]
          rw [e] at c38
          exact ex_weak2 (ih (i + 1) _ _ (by omega) (nI_1 i) (by rw [sGreat, if_pos (Int32.not_le.mp c38)])) ⟨rfl, rfl, rfl, rfl, rfl, trivial⟩
    exact ex_weak2 (key 7 0 _ _ (by omega) rfl rfl) ⟨rfl, rfl, rfl, rfl, rfl, trivial⟩
  · refine ex_iconst (v := -1) F dX7_keeps_8 (by decide) ?_
    exact ex_iret F R dX7_keeps_9 rfl (⟨by rw [if_pos (b2i_1.mp c5)], jX_rf h16⟩)
theorem way_le (n : Nat) (hn : n ≤ 12) : ∀ i, i ≤ 13 → wayN n i ≤ 12 ^ i := by
  intro i
  induction i with
  | zero => intro _; exact Nat.le_refl _
  | succ i ih =>
    intro hi
    have h1 := ih (by omega)
    show wayN n i * (n - i) / (i + 1) ≤ 12 ^ (i + 1)
    rw [Nat.pow_succ]
    exact Nat.le_trans (Nat.div_le_self _ _) (Nat.mul_le_mul h1 (by omega))
theorem pow13 {i : Nat} (h : i ≤ 13) : 12 ^ i ≤ 106993205379072 := Nat.le_trans (Nat.pow_le_pow_right (by decide) h) (by decide)
theorem sumW_all : ∀ n, n ≤ 12 → ∀ b, b ≤ 9 → ∀ a, a ≤ b → sumW n 0 a b (n + 1) < 4611686018427387904 := by decide +kernel
theorem sumW_le (n k a b : Nat) : ∀ i, sumW n k a b i ≤ sumW n 0 a b i := by
  intro i
  induction i with
  | zero => exact Nat.le_refl _
  | succ i ih =>
    rw [sumW, sumW, if_pos (Nat.zero_le i)]
    split <;> omega
theorem sumW_lt {n k a b : Nat} (hn : n ≤ 12) (hb : b ≤ 9) (ha : a ≤ b) : sumW n k a b (n + 1) < 2 ^ 63 := Nat.lt_of_le_of_lt (sumW_le n k a b (n + 1)) (Nat.lt_trans (sumW_all n hn b hb a ha) (by decide))
theorem cs_X7_witch_85 : CSS (xmN YX7_witch).cls (xmF YX7_witch) (xmW YX7_witch) 85 3 YX7_outside := ⟨⟨ml_X7_85, ini_X7, cd_X7_outside, by decide +kernel, by decide⟩, st_X7_outside⟩
theorem cs_X7_witch_208 : CSS (xmN YX7_witch).cls (xmF YX7_witch) (xmW YX7_witch) 208 2 YX7_power := ⟨⟨ml_X7_208, ini_X7, cd_X7_power, by decide +kernel, by decide⟩, st_X7_power⟩
theorem cs_X7_witch_212 : CSS (xmN YX7_witch).cls (xmF YX7_witch) (xmW YX7_witch) 212 3 YX7_lowest := ⟨⟨ml_X7_212, ini_X7, cd_X7_lowest, by decide +kernel, by decide⟩, st_X7_lowest⟩
set_option maxRecDepth 100000 in
theorem c_X7_witch {l : Launch} {g : XG} {M : Mem} {n0 k0 a0 b0 wh : Int32} : Call l g YX7_witch [.ref (ad g 0), .int n0, .int k0, .int a0, .int b0, .int wh] M (PL (fun v M' => v = (if badWitch n0 k0 a0 b0 wh = true then -1 else sLow (sumW n0.toNatClampNeg k0.toNatClampNeg a0.toNatClampNeg b0.toNatClampNeg (n0.toNatClampNeg + 1)) (b0.toNatClampNeg ^ n0.toNatClampNeg) wh) ∧ M' = M)) := by
  refine call_of (by decide +kernel) (Nat.le_of_ble_eq_true rfl) (fun x hxl F R => ?_)
  subst hxl
  refine ex_iload_n F dX7_witch_0 rfl rfl ?_
  refine ex_iconst (v := 1) F dX7_witch_1 (by decide) ?_
  refine ex_bipush (v := 12) F dX7_witch_2 (by decide) ?_
  refine ex_callSi F (c_X7_outside) dX7_witch_4 cs_X7_witch_85 rfl rfl (Nat.le_of_ble_eq_true rfl) (fun v4 M4 h4 => ?_)
  obtain ⟨rfl, q4⟩ := h4
  rw [q4]
  clear q4
  refine ex_if_ne (t := 50) F dX7_witch_7 (by decide) (fun c7 => ?_) (fun c7 => ?_)
  · refine ex_ldc2 F dX7_witch_50 kc_X7_206 ?_
    exact ex_lret F R dX7_witch_53 rfl (⟨by rw [if_pos (by simp [badWitch, b2i_1.mp c7])], rfl⟩)
  · refine ex_iload_n F dX7_witch_10 rfl rfl ?_
    refine ex_iconst (v := 0) F dX7_witch_11 (by decide) ?_
    refine ex_iload_n F dX7_witch_12 rfl rfl ?_
    refine ex_callSi F (c_X7_outside) dX7_witch_13 cs_X7_witch_85 rfl rfl (Nat.le_of_ble_eq_true rfl) (fun v13 M13 h13 => ?_)
    obtain ⟨rfl, q13⟩ := h13
    rw [q13]
    clear q13
    refine ex_if_ne (t := 50) F dX7_witch_16 (by decide) (fun c16 => ?_) (fun c16 => ?_)
    · refine ex_ldc2 F dX7_witch_50 kc_X7_206 ?_
      exact ex_lret F R dX7_witch_53 rfl (⟨by rw [if_pos (by simp [badWitch, b2i_0.mp c7, b2i_1.mp c16])], rfl⟩)
    · refine ex_iload F dX7_witch_19 rfl ?_
      refine ex_iconst (v := 1) F dX7_witch_21 (by decide) ?_
      refine ex_bipush (v := 9) F dX7_witch_22 (by decide) ?_
      refine ex_callSi F (c_X7_outside) dX7_witch_24 cs_X7_witch_85 rfl rfl (Nat.le_of_ble_eq_true rfl) (fun v24 M24 h24 => ?_)
      obtain ⟨rfl, q24⟩ := h24
      rw [q24]
      clear q24
      refine ex_if_ne (t := 50) F dX7_witch_27 (by decide) (fun c27 => ?_) (fun c27 => ?_)
      · refine ex_ldc2 F dX7_witch_50 kc_X7_206 ?_
        exact ex_lret F R dX7_witch_53 rfl (⟨by rw [if_pos (by simp [badWitch, b2i_0.mp c7, b2i_0.mp c16, b2i_1.mp c27])], rfl⟩)
      · refine ex_iload_n F dX7_witch_30 rfl rfl ?_
        refine ex_iconst (v := 0) F dX7_witch_31 (by decide) ?_
        refine ex_iload F dX7_witch_32 rfl ?_
        refine ex_callSi F (c_X7_outside) dX7_witch_34 cs_X7_witch_85 rfl rfl (Nat.le_of_ble_eq_true rfl) (fun v34 M34 h34 => ?_)
        obtain ⟨rfl, q34⟩ := h34
        rw [q34]
        clear q34
        refine ex_if_ne (t := 50) F dX7_witch_37 (by decide) (fun c37 => ?_) (fun c37 => ?_)
        · refine ex_ldc2 F dX7_witch_50 kc_X7_206 ?_
          exact ex_lret F R dX7_witch_53 rfl (⟨by rw [if_pos (by simp [badWitch, b2i_0.mp c7, b2i_0.mp c16, b2i_0.mp c27, b2i_1.mp c37])], rfl⟩)
        · refine ex_iload F dX7_witch_40 rfl ?_
          refine ex_iconst (v := 0) F dX7_witch_42 (by decide) ?_
          refine ex_iconst (v := 1) F dX7_witch_43 (by decide) ?_
          refine ex_callSi F (c_X7_outside) dX7_witch_44 cs_X7_witch_85 rfl rfl (Nat.le_of_ble_eq_true rfl) (fun v44 M44 h44 => ?_)
          obtain ⟨rfl, q44⟩ := h44
          rw [q44]
          clear q44
          refine ex_if_eq (t := 54) F dX7_witch_47 (by decide) (fun c47 => ?_) (fun c47 => ?_)
          · obtain ⟨n, n1, n2, en⟩ := outB_n (a := 1) (b := 12) (by decide) (b2i_0.mp c7) (by decide)
            have hk0 := b2i_0.mp c16
            have ha0 := b2i_0.mp c37
            obtain ⟨b, b1, b2, eb⟩ := outB_n (a := 1) (b := 9) (by decide) (b2i_0.mp c27) (by decide)
            rw [en] at hk0
            rw [eb] at ha0
            obtain ⟨k, -, k2, ek⟩ := outB_n (a := 0) (b := n) (by omega) hk0 (by decide)
            obtain ⟨a, -, a2, ea⟩ := outB_n (a := 0) (b := b) (by omega) ha0 (by decide)
            have hbad : ¬ badWitch n0 k0 a0 b0 wh = true := by simp [badWitch, b2i_0.mp c7, b2i_0.mp c16, b2i_0.mp c27, b2i_0.mp c37, b2i_0.mp c47]
            have e1 : n0.toNatClampNeg = n := by rw [en]; exact nI_clamp (by omega)
            have e2 : k0.toNatClampNeg = k := by rw [ek]; exact nI_clamp (by omega)
            have e3 : a0.toNatClampNeg = a := by rw [ea]; exact nI_clamp (by omega)
            have e4 : b0.toNatClampNeg = b := by rw [eb]; exact nI_clamp (by omega)
            simp only [if_neg hbad, e1, e2, e3, e4] at R
            clear hbad e1 e2 e3 e4 c7 c16 c27 c37 hk0 ha0
            subst en; subst eb; subst ek; subst ea
            refine ex_lconst (v := 0) F dX7_witch_54 (by decide) ?_
            refine ex_lstore F dX7_witch_55 (by decide) ?_
            refine ex_lconst (v := 1) F dX7_witch_57 (by decide) ?_
            refine ex_lstore F dX7_witch_58 (by decide) ?_
            refine ex_iconst (v := 0) F dX7_witch_60 (by decide) ?_
            refine ex_istore F dX7_witch_61 (by decide) ?_
            have key : ∀ (m i : Nat) (v : Int32), i + m = n + 1 → v = nI i → EX x g (xmL YX7_witch) M 63 [(0, .ref (ad g 0)), (1, .int (nI n)), (2, .int (nI k)), (3, .int (nI a)), (4, .int (nI b)), (5, .int wh), (6, .long (lN (sumW n k a b i))), (8, .long (lN (wayN n i))), (10, .int v)] [] := by
              intro m
              induction m with
              | zero =>
                intro i v hi hv
                obtain rfl : i = n + 1 := by omega
                subst hv
                refine ex_iload F dX7_witch_63 rfl ?_
                refine ex_iload_n F dX7_witch_65 rfl rfl ?_
                refine ex_icmp_gt (t := 125) F dX7_witch_66 (by decide) (fun _ => ?_) (fun c => absurd (nI_lt (by omega) (by omega)) c)
                refine ex_lload F dX7_witch_125 rfl ?_
                refine ex_iload F dX7_witch_127 rfl ?_
                refine ex_i2l F dX7_witch_129 ?_
                refine ex_iload_n F dX7_witch_130 rfl rfl ?_
                refine ex_callSl F (c_X7_power (n := n) rfl (by omega)) dX7_witch_131 cs_X7_witch_208 rfl rfl (Nat.le_of_ble_eq_true rfl) (fun v131 M131 h131 => ?_)
                obtain ⟨e131, q131⟩ := h131
                rw [q131]
                clear q131
                rw [nI_l (by omega), sPow_n] at e131
                subst e131
                refine ex_iload F dX7_witch_134 rfl ?_
                refine ex_callSl F (c_X7_lowest (sumW_lt n2 b2 a2) (Nat.pow_pos (by omega)) (Nat.lt_of_le_of_lt (Nat.le_trans (Nat.pow_le_pow_left b2 _) (Nat.pow_le_pow_right (by decide) n2)) (by decide))) dX7_witch_136 cs_X7_witch_212 rfl rfl (Nat.le_of_ble_eq_true rfl) (fun v136 M136 h136 => ?_)
                obtain ⟨rfl, q136⟩ := h136
                rw [q136]
                clear q136
                exact ex_lret F R dX7_witch_139 rfl (⟨rfl, rfl⟩)
              | succ m ih =>
                intro i v hi hv
                subst hv
                have hw := way_le n (by omega) i (by omega)
                have h13 := pow13 (show i ≤ 13 by omega)
                have hwn : wayN n i * (n - i) ≤ 106993205379072 * 12 := Nat.mul_le_mul (Nat.le_trans hw h13) (by omega)
                refine ex_iload F dX7_witch_63 rfl ?_
                refine ex_iload_n F dX7_witch_65 rfl rfl ?_
                refine ex_icmp_gt (t := 125) F dX7_witch_66 (by decide) (fun c => absurd c (nI_nlt (by omega) (by omega))) (fun _ => ?_)
                refine ex_iload F dX7_witch_69 rfl ?_
                refine ex_iload_n F dX7_witch_71 rfl rfl ?_
                refine ex_icmp_lt (t := 103) F dX7_witch_72 (by decide) (fun c72 => ?_) (fun c72 => ?_)
                · refine ex_lload F dX7_witch_103 rfl ?_
                  refine ex_iload_n F dX7_witch_105 rfl rfl ?_
                  refine ex_iload F dX7_witch_106 rfl ?_
                  refine ex_isub F dX7_witch_108 ?_
                  refine ex_i2l F dX7_witch_109 ?_
                  refine ex_lmul F dX7_witch_110 ?_
                  refine ex_iload F dX7_witch_111 rfl ?_
                  refine ex_iconst (v := 1) F dX7_witch_113 (by decide) ?_
                  refine ex_iadd F dX7_witch_114 ?_
                  refine ex_i2l F dX7_witch_115 ?_
                  refine ex_ldiv F dX7_witch_116 (by rw [nI_1, nI_l (by omega)]; exact fun q => absurd ((pk_lEQ (b := 0) (by omega) (by decide)).mp q) (by omega)) ?_
                  refine ex_lstore F dX7_witch_117 (by decide) ?_
                  refine ex_iinc (w := _ + 1) F dX7_witch_119 rfl rfl (by decide) ?_
                  refine ex_goto (t := 63) F dX7_witch_122 (by decide) ?_
                  refine ex_weak2 (ih (i + 1) _ (by omega) (nI_1 i)) ⟨rfl, rfl, rfl, rfl, rfl, rfl, ?_, ?_, rfl, trivial⟩
                  · rw [sumW, if_neg (fun q => absurd (nI_le q (by omega)) (Int32.not_le.mpr c72))]; rfl
                  · refine congrArg (fun z => some (Value.long z)) ?_
                    rw [pk_sub (by omega), nI_l (by omega), nI_1, nI_l (by omega), lN_mul, pk_lDiv (by omega) (by omega) (by omega)]
                    rfl
                · refine ex_lload F dX7_witch_75 rfl ?_
                  refine ex_lload F dX7_witch_77 rfl ?_
                  refine ex_iload_n F dX7_witch_79 rfl rfl ?_
                  refine ex_i2l F dX7_witch_80 ?_
                  refine ex_iload F dX7_witch_81 rfl ?_
                  refine ex_callSl F (c_X7_power (n := i) rfl (by omega)) dX7_witch_83 cs_X7_witch_208 rfl rfl (Nat.le_of_ble_eq_true rfl) (fun v83 M83 h83 => ?_)
                  obtain ⟨e83, q83⟩ := h83
                  rw [q83]
                  clear q83
                  rw [nI_l (by omega), sPow_n] at e83
                  subst e83
                  refine ex_lmul F dX7_witch_86 ?_
                  refine ex_iload F dX7_witch_87 rfl ?_
                  refine ex_iload_n F dX7_witch_89 rfl rfl ?_
                  refine ex_isub F dX7_witch_90 ?_
                  refine ex_i2l F dX7_witch_91 ?_
                  refine ex_iload_n F dX7_witch_92 rfl rfl ?_
                  refine ex_iload F dX7_witch_93 rfl ?_
                  refine ex_isub F dX7_witch_95 ?_
                  refine ex_callSl F (c_X7_power (n := n - i) (pk_sub (by omega)) (by omega)) dX7_witch_96 cs_X7_witch_208 rfl rfl (Nat.le_of_ble_eq_true rfl) (fun v96 M96 h96 => ?_)
                  obtain ⟨e96, q96⟩ := h96
                  rw [q96]
                  clear q96
                  rw [pk_sub (by omega), nI_l (by omega), sPow_n] at e96
                  subst e96
                  rw [lN_mul]
                  refine ex_lmul F dX7_witch_99 ?_
                  rw [lN_mul]
                  refine ex_ladd F dX7_witch_100 ?_
                  rw [lN_add]
                  refine ex_lstore F dX7_witch_101 (by decide) ?_
                  refine ex_lload F dX7_witch_103 rfl ?_
                  refine ex_iload_n F dX7_witch_105 rfl rfl ?_
                  refine ex_iload F dX7_witch_106 rfl ?_
                  refine ex_isub F dX7_witch_108 ?_
                  refine ex_i2l F dX7_witch_109 ?_
                  refine ex_lmul F dX7_witch_110 ?_
                  refine ex_iload F dX7_witch_111 rfl ?_
                  refine ex_iconst (v := 1) F dX7_witch_113 (by decide) ?_
                  refine ex_iadd F dX7_witch_114 ?_
                  refine ex_i2l F dX7_witch_115 ?_
                  refine ex_ldiv F dX7_witch_116 (by rw [nI_1, nI_l (by omega)]; exact fun q => absurd ((pk_lEQ (b := 0) (by omega) (by decide)).mp q) (by omega)) ?_
                  refine ex_lstore F dX7_witch_117 (by decide) ?_
                  refine ex_iinc (w := _ + 1) F dX7_witch_119 rfl rfl (by decide) ?_
                  refine ex_goto (t := 63) F dX7_witch_122 (by decide) ?_
                  refine ex_weak2 (ih (i + 1) _ (by omega) (nI_1 i)) ⟨rfl, rfl, rfl, rfl, rfl, rfl, ?_, ?_, rfl, trivial⟩
                  · rw [sumW, if_pos ((nI_leI (by omega) (by omega)).mp (Int32.not_lt.mp c72))]; rfl
                  · refine congrArg (fun z => some (Value.long z)) ?_
                    rw [pk_sub (by omega), nI_l (by omega), nI_1, nI_l (by omega), lN_mul, pk_lDiv (by omega) (by omega) (by omega)]
                    rfl
            exact ex_weak2 (key (n + 1) 0 _ (by omega) rfl) ⟨rfl, rfl, rfl, rfl, rfl, rfl, rfl, rfl, rfl, trivial⟩
          · refine ex_ldc2 F dX7_witch_50 kc_X7_206 ?_
            exact ex_lret F R dX7_witch_53 rfl (⟨by rw [if_pos (by simp [badWitch, b2i_0.mp c7, b2i_0.mp c16, b2i_0.mp c27, b2i_0.mp c37, b2i_1.mp c47])], rfl⟩)
end
